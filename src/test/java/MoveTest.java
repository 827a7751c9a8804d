/** Promise 5. */
public final class MoveTest {
    public static void main(String[] args) {
        Check check = new Check();
        ordinary(check);
        roundTheSpace(check);
        withoutTag(check);
        wrongInputs(check);
        check.end();
    }

    private static void ordinary(Check check) {
        CapUnit unit = new CapUnit();
        unit.root(1, 1000, 60, 5);
        int meta = Check.told(Check.meta(5, 15, 36 * 256 + 232));
        check.same("inside", unit.move(2, 1, 1059), true);
        check.register("inside", unit, 2, 1, 1059, meta, 1000, 60, 5, 15, 59);
        // B is 232, so R is 6: addresses from 960 to 1215 leave the bounds as they are.
        check.same("lowest", unit.move(2, 1, 960), true);
        check.register("lowest", unit, 2, 1, 960, meta, 1000, 60, 5, 15, -40);
        check.same("highest", unit.move(2, 1, 1215), true);
        check.same("too low", unit.move(2, 1, 959), false);
        check.register("too low", unit, 2, 0, 959, meta, 744, 60, 5, 15, 215);
        check.same("too high", unit.move(2, 1, 1216), false);
        check.register("too high", unit, 2, 0, 1216, meta, 1256, 60, 5, 15, -40);
        check.same("back without tag", unit.move(2, 2, 1000), false);
        check.same("in place", unit.move(1, 1, 1001), true);
        check.same("its address", unit.told(1, 1), 1001);
        check.same("to 0", unit.move(0, 1, 1000), false);
        check.isNull("to 0", unit, 0);
    }

    private static void roundTheSpace(Check check) {
        CapUnit unit = new CapUnit();
        unit.root(1, 0xC0000000, 0x40000000L, 1);
        check.same("from the last quarter to 0", unit.move(2, 1, 0), true);
        check.same("base", unit.told(2, 3), 0xC0000000L);
        check.same("length", unit.told(2, 4), 0x40000000L);
        unit.root(3, 0, 16, 1);
        check.same("before 0", unit.move(4, 3, -1), true);
        check.same("base", unit.told(4, 3), 0);
        check.same("length", unit.told(4, 4), 16);
        check.same("offset", unit.told(4, 7), Check.SPACE - 1);
        unit.root(5, 0, Check.SPACE, 1);
        check.same("all, anywhere", unit.move(6, 5, Integer.MIN_VALUE), true);
        check.same("address", unit.told(6, 1), Integer.MIN_VALUE);
        check.same("offset", unit.told(6, 7), Check.SPACE / 2);
    }

    private static void withoutTag(Check check) {
        CapUnit unit = new CapUnit();
        check.same("NULL", unit.move(1, 0, 77), false);
        check.register("a number", unit, 1, 0, 77, 0, 0, Check.SPACE, 0, 15, 77);
        unit.root(2, 5, 40, 4095);
        unit.gate(3, 2);
        check.same("a gate", unit.move(3, 3, 5), false);
        check.same("its type", unit.told(3, 6), 14);
        unit.root(4, 0, 16, 128);
        unit.move(4, 4, 7);
        check.same("seal", unit.seal(5, 2, 4), true);
        check.same("a sealed one", unit.move(6, 5, 6), false);
        check.same("its address", unit.told(6, 1), 6);
        check.same("its type", unit.told(6, 6), 7);
    }

    private static void wrongInputs(Check check) {
        CapUnit unit = new CapUnit();
        unit.root(1, 5, 40, 4095);
        int[] none = {-1, 32, Integer.MIN_VALUE, Integer.MAX_VALUE};
        for (int r : none) {
            check.noRegister("move(" + r + ", 1, 6)", () -> unit.move(r, 1, 6));
            check.noRegister("move(1, " + r + ", 6)", () -> unit.move(1, r, 6));
            check.noRegister("move(0, " + r + ", 6)", () -> unit.move(0, r, 6));
        }
        check.same("nothing changed", unit.told(1, 1), 5);
    }
}
