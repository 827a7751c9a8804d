/** Promise 4. */
public final class NarrowTest {
    public static void main(String[] args) {
        Check check = new Check();
        ordinary(check);
        fits(check);
        exactly(check);
        beyondTheSpace(check);
        withoutTag(check);
        wrongInputs(check);
        check.end();
    }

    private static CapUnit unitAt(int address) {
        CapUnit unit = new CapUnit();
        unit.root(1, 0, Check.SPACE, 4095);
        unit.move(2, 1, address);
        return unit;
    }

    private static void ordinary(Check check) {
        CapUnit unit = unitAt(1000);
        check.same("narrow(3, 2, 60, false)", unit.narrow(3, 2, 60, false), true);
        check.register("60", unit, 3, 1, 1000, Check.told(Check.meta(4095, 15, 36 * 256 + 232)), 1000, 60, 4095, 15, 0);
        check.same("narrow(3, 2, 1000, false)", unit.narrow(3, 2, 1000, false), true);
        check.register("1000", unit, 3, 1, 1000,
                Check.told(Check.meta(4095, 15, 16384 + 60)), 896, 1152, 4095, 15, 104);
        check.same("narrow(2, 2, 0, true)", unit.narrow(2, 2, 0, true), true);
        check.register("0, in place", unit, 2, 1, 1000,
                Check.told(Check.meta(4095, 15, 40 * 256 + 232)), 1000, 0, 4095, 15, 0);
        check.same("narrow(0, 1, 8, true)", unit.narrow(0, 1, 8, true), false);
        check.isNull("narrow to 0", unit, 0);
        check.same("the source stays", unit.told(1, 4), Check.SPACE);
    }

    private static void fits(Check check) {
        CapUnit unit = new CapUnit();
        unit.root(1, 1000, 60, 3);
        check.same("as long", unit.narrow(2, 1, 60, true), true);
        check.same("a byte longer", unit.narrow(2, 1, 61, false), false);
        check.same("its length nevertheless", unit.told(2, 4), 61);
        check.same("move before it", unit.move(3, 1, 999), true);
        check.same("a byte before", unit.narrow(4, 3, 2, false), false);
        check.same("move to its end", unit.move(3, 1, 1060), true);
        check.same("no byte at its end", unit.narrow(4, 3, 0, false), true);
        check.same("a byte at its end", unit.narrow(4, 3, 1, false), false);
        check.same("move past its end", unit.move(3, 1, 1061), true);
        check.same("no byte past its end", unit.narrow(4, 3, 0, false), false);
    }

    private static void exactly(Check check) {
        CapUnit unit = unitAt(1000);
        check.same("104 exactly", unit.narrow(3, 2, 104, true), true);
        check.same("100 exactly", unit.narrow(3, 2, 100, true), false);
        check.same("what it became", unit.told(3, 4), 104);
        check.same("100 about", unit.narrow(3, 2, 100, false), true);
        CapUnit odd = unitAt(1001);
        check.same("base rounded", odd.narrow(3, 2, 103, true), false);
        check.same("base 1000", odd.told(3, 3), 1000);
        check.same("63 exactly", odd.narrow(3, 2, 63, true), true);
        check.same("64 exactly", odd.narrow(3, 2, 64, true), false);
    }

    private static void beyondTheSpace(Check check) {
        CapUnit unit = unitAt(-16);
        check.same("up to 2^32", unit.narrow(3, 2, 16, true), true);
        check.same("beyond 2^32", unit.narrow(3, 2, 17, false), false);
        check.register("as up to 2^32", unit, 3, 0, -16,
                Check.told(Check.meta(4095, 15, 240)), Check.SPACE - 16, 16, 4095, 15, 0);
        check.same("length -1 is long", unit.narrow(3, 2, -1, false), false);
        check.same("as up to 2^32, too", unit.told(3, 4), 16);
        check.same("length -1 of all", unit.narrow(3, 1, -1, false), true);
        check.same("is all", unit.told(3, 4), Check.SPACE);
        check.same("length -1 of all, exactly", unit.narrow(3, 1, -1, true), false);
        check.same("length MIN is 2^31", unit.narrow(3, 1, Integer.MIN_VALUE, true), true);
        check.same("told so", unit.told(3, 4), Check.SPACE / 2);
    }

    private static void withoutTag(Check check) {
        CapUnit unit = unitAt(5);
        check.same("of NULL", unit.narrow(3, 0, 8, false), false);
        check.register("NULL narrowed", unit, 3, 0, 0, Check.told(Check.meta(0, 15, 2048)), 0, 8, 0, 15, 0);
        unit.gate(4, 1);
        check.same("of a gate", unit.narrow(5, 4, 8, false), false);
        check.register("gate narrowed", unit, 5, 0, 0, Check.told(Check.meta(4095, 14, 2048)), 0, 8, 4095, 14, 0);
        unit.seal(4, 1, 2);
        check.same("of a sealed one", unit.narrow(5, 4, 8, false), false);
        check.same("its type", unit.told(5, 6), 5);
        unit.put(6, 0, 32768);
        unit.narrow(6, 6, 100, false);
        check.same("the free bit is kept, not exactness told",
                unit.told(6, 2), Check.told(Check.meta(0, 15, 32768 + 16384 + 40 * 256)));
        unit.put(6, 0, 0);
        unit.narrow(6, 6, 8, false);
        check.same("exactness is not stored", unit.told(6, 2), Check.told(Check.meta(0, 15, 2048)));
    }

    private static void wrongInputs(Check check) {
        CapUnit unit = unitAt(5);
        int[] none = {-1, 32, Integer.MIN_VALUE, Integer.MAX_VALUE};
        for (int r : none) {
            check.noRegister("narrow(" + r + ", 1, ..)", () -> unit.narrow(r, 1, 8, false));
            check.noRegister("narrow(1, " + r + ", ..)", () -> unit.narrow(1, r, 8, false));
            check.noRegister("narrow(0, " + r + ", ..)", () -> unit.narrow(0, r, 8, false));
        }
        check.same("nothing changed", unit.told(1, 4), Check.SPACE);
    }
}
