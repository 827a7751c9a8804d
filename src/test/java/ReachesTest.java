/** Promise 13. */
public final class ReachesTest {
    private final Check check = new Check();

    public static void main(String[] args) {
        ReachesTest test = new ReachesTest();
        test.inBounds();
        test.noByte();
        test.roundedBounds();
        test.whateverItIs();
        test.withoutSign();
        test.roundTheSpace();
        test.mostBytes();
        test.registers();
        test.otherCounts();
        test.check.end();
    }

    /** 1 is 1000 to 1060. */
    private static CapUnit unit() {
        CapUnit unit = new CapUnit();
        unit.root(1, 1000, 60, 0);
        return unit;
    }

    private void inBounds() {
        check.sentence("Whether x and n bytes are in BOUNDS of REGISTER r");
        CapUnit unit = unit();
        check.same("all of it", unit.reaches(1, 1000, 60), true);
        check.same("a byte more", unit.reaches(1, 1000, 61), false);
        check.same("a byte earlier", unit.reaches(1, 999, 60), false);
        check.same("a byte later", unit.reaches(1, 1001, 60), false);
        check.same("the first byte", unit.reaches(1, 1000, 1), true);
        check.same("the last byte", unit.reaches(1, 1059, 1), true);
        check.same("a byte at the end", unit.reaches(1, 1060, 1), false);
    }

    private void noByte() {
        check.sentence("n (0 ..) bytes");
        CapUnit unit = unit();
        check.same("no byte, earlier", unit.reaches(1, 999, 0), false);
        check.same("no byte at its base", unit.reaches(1, 1000, 0), true);
        check.same("no byte at its end", unit.reaches(1, 1060, 0), true);
        check.same("no byte behind its end", unit.reaches(1, 1061, 0), false);
        unit.root(2, 77, 0, 0);
        check.same("no byte of none", unit.reaches(2, 77, 0), true);
        check.same("a byte of none", unit.reaches(2, 77, 1), false);
    }

    private void roundedBounds() {
        check.sentence("in BOUNDS of REGISTER r (as they are PACKED)");
        CapUnit unit = unit();
        unit.root(2, 1001, 100, 0);
        check.same("the rounded ones", unit.reaches(2, 1000, 104), true);
        check.same("before the rounded ones", unit.reaches(2, 999, 1), false);
        check.same("beyond the rounded ones", unit.reaches(2, 1000, 105), false);
    }

    private void whateverItIs() {
        check.sentence("of REGISTER r (with a TAG or none, open or not, with no PERMS)");
        CapUnit unit = unit();
        unit.put(2, 1000, Check.told(Check.meta(0, 3, Check.plain(36, 232))));
        check.same("sealed, without tag", unit.reaches(2, 1000, 60), true);
        check.same("sealed, without tag, a byte more", unit.reaches(2, 1000, 61), false);
        unit.move(1, 1, 990);
        check.same("from another address", unit.reaches(1, 1000, 60), true);
    }

    private void withoutSign() {
        check.sentence("x (without sign)");
        CapUnit unit = unit();
        unit.root(4, Integer.MIN_VALUE, 60, 0);
        check.same("in the upper half", unit.reaches(4, Integer.MIN_VALUE, 60), true);
        check.same("before the upper half", unit.reaches(4, Integer.MAX_VALUE, 1), false);
        check.same("far below", unit.reaches(4, 0, 1), false);
        check.same("far above", unit.reaches(1, -1, 1), false);
        check.same("the last byte of all", unit.reaches(0, -1, 1), true);
    }

    private void roundTheSpace() {
        check.sentence("x and n bytes are in BOUNDS (not round the space)");
        CapUnit unit = unit();
        check.same("beyond all", unit.reaches(0, -1, 2), false);
        unit.put(3, -1, Check.told(1017));
        check.same("bounds beyond 2^32", unit.reaches(3, -1, 4), true);
        check.same("beyond these", unit.reaches(3, -1, 5), false);
        check.same("round the space", unit.reaches(3, 0, 1), false);
    }

    private void mostBytes() {
        check.sentence("n (.. to 4096) bytes");
        CapUnit unit = unit();
        check.same("4096, up to 2^32", unit.reaches(0, -4096, 4096), true);
        check.same("4096, beyond 2^32", unit.reaches(0, -4095, 4096), false);
        unit.root(2, 0, 4096, 0);
        check.same("4096 of 4096", unit.reaches(2, 0, 4096), true);
        check.same("4096 of 4096, later", unit.reaches(2, 1, 4096), false);
    }

    private void registers() {
        check.sentence("IndexOutOfBoundsException if r is not 0 to 31");
        CapUnit unit = unit();
        for (int r : Check.noRegisters()) {
            check.noRegister("reaches(" + r + ", 0, 1)", () -> unit.reaches(r, 0, 1));
        }
        check.same("reaches(0, 0, 1)", unit.reaches(0, 0, 1), true);
        check.same("reaches(31, 0, 1)", unit.reaches(31, 0, 1), true);
    }

    private void otherCounts() {
        check.sentence("IllegalArgumentException for another n");
        CapUnit unit = unit();
        int[] counts = {-1, 4097, Integer.MIN_VALUE, Integer.MAX_VALUE};
        for (int n : counts) {
            check.noArgument("reaches(0, 0, " + n + ")", () -> unit.reaches(0, 0, n));
            check.noArgument("reaches(1, 1000, " + n + ")", () -> unit.reaches(1, 1000, n));
        }
    }
}
