/** Promise 2. */
public final class RootTest {
    public static void main(String[] args) {
        Check check = new Check();
        ordinary(check);
        edges(check);
        wrongInputs(check);
        atMostEight(check);
        check.end();
    }

    private static void ordinary(Check check) {
        CapUnit unit = new CapUnit();
        check.same("root(1, 1000, 60, 5)", unit.root(1, 1000, 60, 5), 1000);
        // T is 1060 mod 64 = 36, B is 1000 mod 256 = 232.
        check.register("short", unit, 1, 1, 1000, Check.told(Check.meta(5, 15, 36 * 256 + 232)), 1000, 60, 5, 15, 0);
        check.same("root(1, 1000, 100, 7)", unit.root(1, 1000, 100, 7), 1000);
        check.register("rounded up", unit, 1, 1, 1000,
                Check.told(Check.meta(7, 15, 16384 + 16 * 256 + 232)), 1000, 104, 7, 15, 0);
        check.same("root(2, 1000, 1000, 4095)", unit.root(2, 1000, 1000, 4095), 896);
        check.register("rounded both ways", unit, 2, 1, 1000,
                Check.told(Check.meta(4095, 15, 16384 + 0 * 256 + 56 + 4)), 896, 1152, 4095, 15, 104);
    }

    private static void edges(Check check) {
        CapUnit unit = new CapUnit();
        check.same("root(31, 0, 2^32, 0)", unit.root(31, 0, Check.SPACE, 0), 0);
        check.register("all", unit, 31, 1, 0, 0, 0, Check.SPACE, 0, 15, 0);
        check.same("root(1, -1, 1, 1)", unit.root(1, -1, 1, 1), -1);
        check.register("last byte", unit, 1, 1, -1, Check.told(Check.meta(1, 15, 255)), Check.SPACE - 1, 1, 1, 15, 0);
        check.same("root(2, -1, 0, 1)", unit.root(2, -1, 0, 1), -1);
        check.same("no byte", unit.told(2, 4), 0);
        check.same("root(3, 1, 2^32 - 1, 1)", unit.root(3, 1, Check.SPACE - 1, 1), 0);
        check.register("nearly all", unit, 3, 1, 1, Check.told(Check.meta(1, 15, 17154)), 0, Check.SPACE, 1, 15, 1);
        check.same("root(4, MIN, 2^31, 1)", unit.root(4, Integer.MIN_VALUE, Check.SPACE / 2, 1), Integer.MIN_VALUE);
        check.same("upper half's base", unit.told(4, 3), Check.SPACE / 2);
        check.same("upper half's length", unit.told(4, 4), Check.SPACE / 2);
    }

    private static void wrongInputs(Check check) {
        CapUnit unit = new CapUnit();
        int[] none = {0, 32, -1, Integer.MIN_VALUE, Integer.MAX_VALUE};
        for (int r : none) {
            check.noRegister("root(" + r + ", ..)", () -> unit.root(r, 0, 16, 1));
            check.noRegister("root(" + r + ", .., -1, -1)", () -> unit.root(r, 0, -1, -1));
        }
        long[] lengths = {-1, Long.MIN_VALUE, Check.SPACE + 1, Long.MAX_VALUE};
        for (long length : lengths) {
            check.noArgument("root of length " + length, () -> unit.root(1, 0, length, 1));
        }
        check.noArgument("root(1, -1, 2, 1)", () -> unit.root(1, -1, 2, 1));
        check.noArgument("root(1, -1, MAX, 1)", () -> unit.root(1, -1, Long.MAX_VALUE, 1));
        check.noArgument("root(1, 1, 2^32, 1)", () -> unit.root(1, 1, Check.SPACE, 1));
        check.noArgument("root of perms -1", () -> unit.root(1, 0, 16, -1));
        check.noArgument("root of perms 4096", () -> unit.root(1, 0, 16, 4096));
        check.isNull("after wrong roots", unit, 1);
        for (int i = 0; i < 8; i++) {
            check.same("root after wrong ones", unit.root(1, i, 1, 1), i);
        }
    }

    private static void atMostEight(Check check) {
        CapUnit unit = new CapUnit();
        for (int i = 0; i < 8; i++) {
            unit.root(1, i, 1, 1);
        }
        // Overwriting a root's register leaves it one of the roots.
        unit.put(1, 0, 0);
        check.noState("ninth root", () -> unit.root(1, 0, 16, 1));
        check.noArgument("ninth root, wrong", () -> unit.root(1, 0, -1, 1));
        check.noRegister("ninth root, nowhere", () -> unit.root(0, 0, -1, 1));
        check.isNull("after the ninth", unit, 1);
    }
}
