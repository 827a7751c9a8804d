/** Promise 5, and what the terms say of those that are moved. */
public final class MoveTest {
    private static final long SPACE = Check.SPACE;

    private final Check check = new Check();

    public static void main(String[] args) {
        MoveTest test = new MoveTest();
        test.becomes();
        test.withoutTag();
        test.notOpen();
        test.otherBoundsBelow();
        test.otherBoundsAbove();
        test.otherBoundsByUnits();
        test.roundTheSpace();
        test.numbers();
        test.registers();
        test.check.end();
    }

    private void becomes() {
        check.sentence("REGISTER d becomes c MOVED to x: ADDRESS x");
        CapUnit unit = new CapUnit();
        unit.root(1, 1000, 60, 5);
        int meta = Check.told(Check.meta(5, 15, Check.plain(36, 232)));
        check.same("inside", unit.move(2, 1, 1059), true);
        check.register("inside", unit, 2, 1, 1059, meta, 1000, 60, 5, 15, 59);
        check.same("the source stays", unit.told(1, 1), 1000);
        check.same("where it is", unit.move(2, 1, 1000), true);
        check.same("in place", unit.move(1, 1, 1001), true);
        check.same("its address", unit.told(1, 1), 1001);
        unit.put(3, 9, 32768);
        unit.move(3, 3, 10);
        check.same("the free bit is kept", unit.told(3, 2), 32768);
    }

    private void withoutTag() {
        check.sentence("c MOVED (that has no TAG)");
        CapUnit unit = new CapUnit();
        unit.put(1, 1000, Check.told(Check.meta(5, 15, Check.plain(36, 232))));
        check.same("inside", unit.move(2, 1, 1001), false);
        check.register("inside", unit, 2, 0, 1001, Check.told(Check.meta(5, 15, Check.plain(36, 232))), 1000, 60, 5, 15, 1);
    }

    private void notOpen() {
        check.sentence("no TAG if c is not open");
        CapUnit unit = new CapUnit();
        unit.root(2, 5, 40, 4095);
        check.same("gate", unit.gate(3, 2), true);
        check.same("a gate, where it is", unit.move(4, 3, 5), false);
        check.same("its type", unit.told(4, 6), 14);
        unit.root(4, 7, 1, 128);
        check.same("seal", unit.seal(5, 2, 4), true);
        check.same("a sealed one", unit.move(6, 5, 6), false);
        check.same("its address", unit.told(6, 1), 6);
        check.same("its type", unit.told(6, 6), 7);
        check.same("a sealed one, where it is", unit.move(6, 5, 5), false);
    }

    private void otherBoundsBelow() {
        check.sentence("no TAG if .. its BOUNDS would be others (too low)");
        CapUnit unit = new CapUnit();
        unit.root(1, 1000, 60, 5);
        int meta = Check.told(Check.meta(5, 15, Check.plain(36, 232)));
        // B is 232, so R is 6: addresses from 960 to 1215 leave the bounds as they are.
        check.same("lowest", unit.move(2, 1, 960), true);
        check.register("lowest", unit, 2, 1, 960, meta, 1000, 60, 5, 15, -40);
        check.same("too low", unit.move(2, 1, 959), false);
        check.register("too low", unit, 2, 0, 959, meta, 744, 60, 5, 15, 215);
        check.same("back without tag", unit.move(2, 2, 1000), false);
    }

    private void otherBoundsAbove() {
        check.sentence("no TAG if .. its BOUNDS would be others (too high)");
        CapUnit unit = new CapUnit();
        unit.root(1, 1000, 60, 5);
        int meta = Check.told(Check.meta(5, 15, Check.plain(36, 232)));
        check.same("highest", unit.move(2, 1, 1215), true);
        check.register("highest", unit, 2, 1, 1215, meta, 1000, 60, 5, 15, 215);
        check.same("too high", unit.move(2, 1, 1216), false);
        check.register("too high", unit, 2, 0, 1216, meta, 1256, 60, 5, 15, -40);
        check.same("a block of 256 on", unit.move(2, 1, 1256), false);
    }

    private void otherBoundsByUnits() {
        check.sentence("no TAG if .. its BOUNDS would be others (of IE)");
        CapUnit unit = new CapUnit();
        // 896 to 2048 in units of 16, B is 56, so R is 0: addresses from 0 to 4095.
        unit.root(1, 1000, 1000, 5);
        check.same("lowest", unit.move(2, 1, 0), true);
        check.same("highest", unit.move(2, 1, 4095), true);
        check.same("too low", unit.move(2, 1, -1), false);
        check.same("too high", unit.move(2, 1, 4096), false);
    }

    private void roundTheSpace() {
        check.sentence("its BOUNDS would be others (not round the space)");
        CapUnit unit = new CapUnit();
        unit.root(1, 0xC0000000, 0x40000000L, 1);
        check.same("from the last quarter to 0", unit.move(2, 1, 0), true);
        check.same("base", unit.told(2, 3), 0xC0000000L);
        check.same("length", unit.told(2, 4), 0x40000000L);
        unit.root(3, 0, 16, 1);
        check.same("before 0", unit.move(4, 3, -1), true);
        check.same("base", unit.told(4, 3), 0);
        check.same("length", unit.told(4, 4), 16);
        check.same("offset", unit.told(4, 7), SPACE - 1);
        check.same("lowest before 0", unit.move(4, 3, -32), true);
        check.same("too low before 0", unit.move(4, 3, -33), false);
        unit.root(5, -16, 16, 1);
        check.same("behind 2^32", unit.move(6, 5, 0), true);
        check.same("base", unit.told(6, 3), SPACE - 16);
        check.same("length", unit.told(6, 4), 16);
        unit.root(7, 0, SPACE, 1);
        int[] anywhere = {0, -1, Integer.MIN_VALUE, Integer.MAX_VALUE};
        for (int x : anywhere) {
            check.same("all, at " + x, unit.move(6, 7, x), true);
            check.same("offset", unit.told(6, 7), Integer.toUnsignedLong(x));
        }
    }

    private void numbers() {
        check.sentence("A number n as a CAPABILITY is NULL MOVED to n");
        CapUnit unit = new CapUnit();
        int[] numbers = {0, 77, -1, Integer.MIN_VALUE, Integer.MAX_VALUE};
        for (int n : numbers) {
            check.same("NULL to " + n, unit.move(1, 0, n), false);
            check.register("the number", unit, 1, 0, n, 0, 0, SPACE, 0, 15, Integer.toUnsignedLong(n));
        }
    }

    private void registers() {
        check.sentence("Likewise (IndexOutOfBoundsException if c or d is not 0 to 31)");
        CapUnit unit = new CapUnit();
        unit.root(1, 5, 40, 4095);
        for (int r : Check.noRegisters()) {
            check.noRegister("move(" + r + ", 1, 6)", () -> unit.move(r, 1, 6));
            check.noRegister("move(1, " + r + ", 6)", () -> unit.move(1, r, 6));
            check.noRegister("move(" + r + ", " + r + ", 6)", () -> unit.move(r, r, 6));
        }
        check.same("move(31, 1, 6)", unit.move(31, 1, 6), true);
        check.same("move(1, 31, 7)", unit.move(1, 31, 7), true);
        check.same("move(0, 1, 7)", unit.move(0, 1, 7), false);
    }
}
