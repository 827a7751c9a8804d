/** Promise 12. */
public final class ToldTest {
    private static final long SPACE = Check.SPACE;

    private final Check check = new Check();

    public static void main(String[] args) {
        ToldTest test = new ToldTest();
        test.tag();
        test.address();
        test.meta();
        test.base();
        test.length();
        test.perms();
        test.type();
        test.offset();
        test.registers();
        test.others();
        test.check.end();
    }

    private void tag() {
        check.sentence("0: 1 if it has a TAG, else 0");
        CapUnit unit = new CapUnit();
        check.same("NULL", unit.told(1, 0), 0);
        unit.root(1, 0, 0, 0);
        check.same("a root of nothing", unit.told(1, 0), 1);
        unit.put(1, 0, 0);
        check.same("one put", unit.told(1, 0), 0);
    }

    private void address() {
        check.sentence("1: ADDRESS (as an int, perhaps below 0)");
        CapUnit unit = new CapUnit();
        int[] addresses = {0, 1, -1, Integer.MIN_VALUE, Integer.MAX_VALUE};
        for (int a : addresses) {
            unit.put(1, a, 0);
            check.same("at " + a, unit.told(1, 1), a);
        }
    }

    private void meta() {
        check.sentence("2: META as it is told (as an int, perhaps below 0)");
        CapUnit unit = new CapUnit();
        check.same("NULL's", unit.told(1, 2), 0);
        unit.root(1, 1000, 60, 2048);
        check.same("with the last perm", unit.told(1, 2), (int) 0x800067EAL);
        check.same("it is below 0", unit.told(1, 2) < 0, true);
        int[] metas = {1, -1, Integer.MIN_VALUE, Integer.MAX_VALUE, 32768};
        for (int m : metas) {
            unit.put(1, 0, m);
            check.same("put " + m, unit.told(1, 2), m);
        }
    }

    private void base() {
        check.sentence("3: BASE");
        CapUnit unit = new CapUnit();
        check.same("NULL's", unit.told(1, 3), 0);
        unit.root(1, -256, 256, 1);
        check.same("in the upper half", unit.told(1, 3), SPACE - 256);
        unit.root(2, 1000, 1000, 1);
        check.same("rounded", unit.told(2, 3), 896);
        unit.root(3, -1, 0, 1);
        check.same("the last", unit.told(3, 3), SPACE - 1);
    }

    private void length() {
        check.sentence("4: TOP less BASE");
        CapUnit unit = new CapUnit();
        check.same("all", unit.told(1, 4), SPACE);
        unit.root(1, 1000, 0, 1);
        check.same("none", unit.told(1, 4), 0);
        unit.root(1, -1, 1, 1);
        check.same("the last", unit.told(1, 4), 1);
        unit.put(2, -1, Check.told(1017));
        check.same("TOP above 2^32", unit.told(2, 4), 10);
        unit.put(2, 0, Check.told(Check.scaled(26, 48, 48)));
        check.same("TOP far above 2^32", unit.told(2, 4), SPACE);
        unit.put(2, 0, Check.told(Check.scaled(25, 8, 136)));
        check.same("more than all", unit.told(2, 4), 192L << 25);
        unit.put(2, 0, Check.told(Check.scaled(25, 0, 184)));
        check.same("TOP below BASE", unit.told(2, 4), -(56L << 25));
    }

    private void perms() {
        check.sentence("5: PERMS");
        CapUnit unit = new CapUnit();
        int[] perms = {0, 1, 2047, 2048, 4095};
        for (int p : perms) {
            unit.root(1, 0, 16, p);
            check.same("perms " + p, unit.told(1, 5), p);
        }
    }

    private void type() {
        check.sentence("6: TYPE");
        CapUnit unit = new CapUnit();
        for (int type = 0; type < 16; type++) {
            unit.put(1, 0, Check.told(Check.meta(4095, type, 32767)));
            check.same("type " + type, unit.told(1, 6), type);
        }
    }

    private void offset() {
        check.sentence("7: ADDRESS less BASE (without sign both)");
        CapUnit unit = new CapUnit();
        unit.root(1, -256, 256, 1);
        unit.move(1, 1, -1);
        check.same("both in the upper half", unit.told(1, 7), 255);
        unit.put(2, -1, 0);
        check.same("only the address in the upper half", unit.told(2, 7), SPACE - 1);
        unit.put(2, 0, Check.told(Check.plain(56, 224)));
        check.same("only the base in the upper half", unit.told(2, 7), 32 - SPACE);
        unit.root(3, 1000, 60, 1);
        unit.move(3, 3, 990);
        check.same("address below base", unit.told(3, 7), -10);
        check.same("NULL", unit.told(0, 7), 0);
    }

    private void registers() {
        check.sentence("IndexOutOfBoundsException if r is not 0 to 31");
        CapUnit unit = new CapUnit();
        for (int r : Check.noRegisters()) {
            for (int what = 0; what < 8; what++) {
                int asked = what;
                check.noRegister("told(" + r + ", " + what + ")", () -> unit.told(r, asked));
            }
        }
        check.isNull("the first", unit, 0);
        check.isNull("the last", unit, 31);
    }

    private void others() {
        check.sentence("IllegalArgumentException for others");
        CapUnit unit = new CapUnit();
        unit.root(1, 5, 16, 1);
        int[] nothing = {-1, 8, 9, Integer.MIN_VALUE, Integer.MAX_VALUE};
        for (int what : nothing) {
            check.noArgument("told(1, " + what + ")", () -> unit.told(1, what));
            check.noArgument("told(0, " + what + ")", () -> unit.told(0, what));
        }
    }
}
