/** Promise 6. */
public final class KeepTest {
    public static void main(String[] args) {
        Check check = new Check();
        CapUnit unit = new CapUnit();
        unit.root(1, 1000, 60, 0xF3C);
        check.same("keep(2, 1, 0x0FF)", unit.keep(2, 1, 0x0FF), true);
        check.register("kept", unit, 2, 1, 1000,
                Check.told(Check.meta(0x03C, 15, 36 * 256 + 232)), 1000, 60, 0x03C, 15, 0);
        check.same("none is added", unit.keep(2, 2, -1), true);
        check.same("perms", unit.told(2, 5), 0x03C);
        check.same("bits above the perms", unit.keep(2, 1, 0xFFFFF000), true);
        check.register("nothing kept", unit, 2, 1, 1000, Check.told(Check.meta(0, 15, 36 * 256 + 232)), 1000, 60, 0, 15, 0);
        check.same("all", unit.keep(2, 1, 4095), true);
        check.same("perms", unit.told(2, 5), 0xF3C);
        check.same("to 0", unit.keep(0, 1, 4095), false);
        check.isNull("to 0", unit, 0);
        withoutTag(check);
        wrongInputs(check);
        check.end();
    }

    private static void withoutTag(Check check) {
        CapUnit unit = new CapUnit();
        unit.put(1, 3, Check.told(Check.meta(7, 15, 32768)));
        check.same("without tag", unit.keep(2, 1, 6), false);
        check.register("without tag", unit, 2, 0, 3, Check.told(Check.meta(6, 15, 32768)));
        unit.root(3, 5, 40, 4095);
        check.same("gate", unit.gate(3, 3), true);
        check.same("a gate", unit.keep(4, 3, -1), false);
        check.same("type", unit.told(4, 6), 14);
        check.same("perms", unit.told(4, 5), 4095);
        unit.root(5, 5, 40, 4095);
        check.same("seal", unit.seal(6, 5, 5), true);
        check.same("a sealed one", unit.keep(7, 6, 3), false);
        check.same("type", unit.told(7, 6), 5);
        check.same("perms", unit.told(7, 5), 3);
    }

    private static void wrongInputs(Check check) {
        CapUnit unit = new CapUnit();
        unit.root(1, 5, 40, 4095);
        int[] none = {-1, 32, Integer.MIN_VALUE, Integer.MAX_VALUE};
        for (int r : none) {
            check.noRegister("keep(" + r + ", 1, 0)", () -> unit.keep(r, 1, 0));
            check.noRegister("keep(1, " + r + ", 0)", () -> unit.keep(1, r, 0));
            check.noRegister("keep(0, " + r + ", 0)", () -> unit.keep(0, r, 0));
        }
        check.same("nothing changed", unit.told(1, 5), 4095);
    }
}
