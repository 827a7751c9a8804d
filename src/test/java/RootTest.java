/** Promise 2. */
public final class RootTest {
    private static final long SPACE = Check.SPACE;

    private final Check check = new Check();

    public static void main(String[] args) {
        RootTest test = new RootTest();
        test.becomes();
        test.noByte();
        test.allBytes();
        test.answersItsBase();
        test.atMostEight();
        test.eightThoughOverwritten();
        test.registers();
        test.beyondTheSpace();
        test.lengthBelow0();
        test.perms();
        test.check.end();
    }

    private void becomes() {
        check.sentence("REGISTER r becomes ADDRESS base, BOUNDS from there length bytes, PACKED, open, these PERMS, a TAG");
        CapUnit unit = new CapUnit();
        unit.root(1, 1000, 60, 5);
        // T is 1060 mod 64 = 36, B is 1000 mod 256 = 232.
        check.register("short", unit, 1, 1, 1000, Check.told(Check.meta(5, 15, Check.plain(36, 232))), 1000, 60, 5, 15, 0);
        unit.root(1, 1000, 100, 7);
        check.register("rounded up", unit, 1, 1, 1000,
                Check.told(Check.meta(7, 15, Check.scaled(0, 16, 232))), 1000, 104, 7, 15, 0);
        unit.root(2, 1000, 1000, 4095);
        check.register("rounded both ways", unit, 2, 1, 1000,
                Check.told(Check.meta(4095, 15, Check.scaled(4, 0, 56))), 896, 1152, 4095, 15, 104);
        unit.put(3, 7, -1);
        unit.root(3, -1, 1, 1);
        check.register("last byte", unit, 3, 1, -1, Check.told(Check.meta(1, 15, 255)), SPACE - 1, 1, 1, 15, 0);
    }

    private void noByte() {
        check.sentence("BOUNDS from there length bytes (none)");
        CapUnit unit = new CapUnit();
        unit.root(1, 0, 0, 1);
        check.register("at 0", unit, 1, 1, 0, Check.told(Check.meta(1, 15, 0)), 0, 0, 1, 15, 0);
        unit.root(2, -1, 0, 1);
        check.register("at the last", unit, 2, 1, -1, Check.told(Check.meta(1, 15, Check.plain(63, 255))),
                SPACE - 1, 0, 1, 15, 0);
    }

    private void allBytes() {
        check.sentence("BOUNDS from there length bytes (all)");
        CapUnit unit = new CapUnit();
        check.same("root(31, 0, 2^32, 0)", unit.root(31, 0, SPACE, 0), 0);
        check.register("all", unit, 31, 1, 0, 0, 0, SPACE, 0, 15, 0);
        check.same("root(4, MIN, 2^31, 1)", unit.root(4, Integer.MIN_VALUE, SPACE / 2, 1), Integer.MIN_VALUE);
        check.same("upper half's base", unit.told(4, 3), SPACE / 2);
        check.same("upper half's length", unit.told(4, 4), SPACE / 2);
    }

    private void answersItsBase() {
        check.sentence("its BASE (as an int)");
        CapUnit unit = new CapUnit();
        check.same("as it was given", unit.root(1, 1000, 60, 5), 1000);
        check.same("rounded down", unit.root(1, 1000, 1000, 5), 896);
        check.same("below 0", unit.root(1, -1, 1, 5), -1);
        check.same("below 0, rounded down", unit.root(1, -127, 100, 5), -128);
        check.same("the lowest int", unit.root(1, Integer.MIN_VALUE, 60, 5), Integer.MIN_VALUE);
        check.same("rounded down to 0", unit.root(1, 1, SPACE - 1, 1), 0);
    }

    private void atMostEight() {
        check.sentence("one of the ROOTS (at most 8); IllegalStateException if there are 8");
        CapUnit unit = new CapUnit();
        for (int i = 0; i < 8; i++) {
            check.same("root " + i, unit.root(1 + i, 10 * i, 1, 1), 10 * i);
        }
        check.noState("ninth root", () -> unit.root(9, 0, 16, 1));
        check.isNull("after the ninth", unit, 9);
        check.noState("to a register that has one", () -> unit.root(8, 0, 16, 1));
        check.same("which stays", unit.told(8, 1), 70);
    }

    private void eightThoughOverwritten() {
        check.sentence("IllegalStateException if there are 8 (though their register holds them no more)");
        CapUnit unit = new CapUnit();
        for (int i = 0; i < 8; i++) {
            check.same("root " + i, unit.root(1, i, 1, 1), i);
        }
        unit.put(1, 0, 0);
        check.noState("ninth root", () -> unit.root(1, 0, 16, 1));
        check.isNull("after the ninth", unit, 1);
    }

    private void registers() {
        check.sentence("IndexOutOfBoundsException if r is not 1 to 31");
        CapUnit unit = new CapUnit();
        check.same("root(1, ..)", unit.root(1, 5, 16, 1), 5);
        check.same("root(31, ..)", unit.root(31, 6, 16, 1), 6);
        check.noRegister("root(0, ..)", () -> unit.root(0, 0, 16, 1));
        for (int r : Check.noRegisters()) {
            check.noRegister("root(" + r + ", ..)", () -> unit.root(r, 0, 16, 1));
        }
    }

    private void beyondTheSpace() {
        check.sentence("IllegalArgumentException if base (without sign) and length are beyond 2^32");
        CapUnit unit = new CapUnit();
        check.same("just up to 2^32", unit.root(1, -16, 16, 1), -16);
        check.noArgument("a byte beyond", () -> unit.root(2, -16, 17, 1));
        check.same("all", unit.root(1, 0, SPACE, 1), 0);
        check.noArgument("a byte more than all", () -> unit.root(2, 0, SPACE + 1, 1));
        check.noArgument("all, a byte later", () -> unit.root(2, 1, SPACE, 1));
        check.same("half, from the half", unit.root(1, Integer.MIN_VALUE, SPACE / 2, 1), Integer.MIN_VALUE);
        check.noArgument("half and a byte", () -> unit.root(2, Integer.MIN_VALUE, SPACE / 2 + 1, 1));
        check.noArgument("the longest", () -> unit.root(2, 0, Long.MAX_VALUE, 1));
        check.noArgument("the longest from the last", () -> unit.root(2, -1, Long.MAX_VALUE, 1));
        check.isNull("none of these", unit, 2);
    }

    private void lengthBelow0() {
        check.sentence("length is below 0");
        CapUnit unit = new CapUnit();
        check.noArgument("-1 at 0", () -> unit.root(1, 0, -1, 1));
        check.noArgument("-1 at 1000", () -> unit.root(1, 1000, -1, 1));
        check.noArgument("-1 at the last", () -> unit.root(1, -1, -1, 1));
        check.noArgument("the lowest", () -> unit.root(1, -1, Long.MIN_VALUE, 1));
        check.same("0 is not", unit.root(1, 0, 0, 1), 0);
    }

    private void perms() {
        check.sentence("or perms not 0 to 4095");
        CapUnit unit = new CapUnit();
        check.noArgument("-1", () -> unit.root(1, 0, 16, -1));
        check.noArgument("4096", () -> unit.root(1, 0, 16, 4096));
        check.noArgument("the lowest", () -> unit.root(1, 0, 16, Integer.MIN_VALUE));
        check.noArgument("the highest", () -> unit.root(1, 0, 16, Integer.MAX_VALUE));
        check.isNull("none of these", unit, 1);
        check.same("0", unit.root(1, 0, 16, 0), 0);
        check.same("0 told", unit.told(1, 5), 0);
        check.same("4095", unit.root(1, 0, 16, 4095), 0);
        check.same("4095 told", unit.told(1, 5), 4095);
    }
}
