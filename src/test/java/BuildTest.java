/** Promise 10. */
public final class BuildTest {
    public static void main(String[] args) {
        Check check = new Check();
        ordinary(check);
        types(check);
        limits(check);
        turnedBounds(check);
        givers(check);
        wrongInputs(check);
        check.end();
    }

    private static int told(CapUnit unit, int perms, int type, int base, long length) {
        return Check.told(Check.meta(perms, type, unit.pack(base, length) & 32767));
    }

    private static void ordinary(Check check) {
        CapUnit unit = new CapUnit();
        unit.root(1, 1000, 60, 7);
        int meta = told(unit, 5, 15, 1010, 20);
        unit.put(2, 1012, meta);
        check.same("build(3, 1, 2)", unit.build(3, 1, 2), true);
        check.register("built", unit, 3, 1, 1012, meta, 1010, 20, 5, 15, 2);
        check.same("the pattern stays", unit.told(2, 0), 0);
        check.same("to 0", unit.build(0, 1, 2), false);
        check.isNull("to 0", unit, 0);
        check.same("in place", unit.build(2, 1, 2), true);
        unit.put(4, 1012, meta ^ 32768);
        check.same("with the free bit", unit.build(4, 1, 4), true);
        check.same("which is kept", unit.told(4, 2), meta ^ 32768);
    }

    private static void types(Check check) {
        CapUnit unit = new CapUnit();
        unit.root(1, 1000, 60, 7);
        for (int type = 0; type < 16; type++) {
            unit.put(2, 1000, told(unit, 0, type, 1000, 60));
            check.same("of type " + type, unit.build(3, 1, 2), true);
            check.same("its type", unit.told(3, 6), type == 14 ? 14 : 15);
            check.same("without tag", unit.build(3, 0, 2), false);
            check.same("its type", unit.told(3, 6), type == 14 ? 14 : 15);
        }
    }

    private static void limits(Check check) {
        CapUnit unit = new CapUnit();
        unit.root(1, 1000, 60, 7);
        int[] bases = {1000, 999, 1000, 1060, 1061, 1000};
        int[] lengths = {60, 2, 61, 0, 0, 0};
        boolean[] due = {true, false, false, true, false, true};
        for (int i = 0; i < due.length; i++) {
            unit.put(2, bases[i], told(unit, 7, 15, bases[i], lengths[i]));
            check.same(bases[i] + ", " + lengths[i] + " bytes", unit.build(3, 1, 2), due[i]);
        }
        for (int perm = 0; perm < 12; perm++) {
            unit.put(2, 1000, told(unit, 1 << perm, 15, 1000, 60));
            check.same("perm " + perm, unit.build(3, 1, 2), perm < 3);
        }
        unit.root(4, 0, Check.SPACE, 4095);
        check.same("one with a tag, wider than the giver", unit.build(5, 1, 4), false);
        check.same("has none", unit.told(5, 0), 0);
        check.same("its length", unit.told(5, 4), Check.SPACE);
    }

    /** E is 26, B 48, T 3 * 16: BASE is 48 * 2^26, TOP that of T = 48 + 64, 2^32 higher. */
    private static void turnedBounds(Check check) {
        CapUnit unit = new CapUnit();
        unit.root(1, 0, Check.SPACE, 4095);
        unit.put(2, 0, Check.told(Check.meta(0, 15, 16384 + (48 + 3) * 256 + 48 + 2)));
        check.same("base", unit.told(2, 3), 48L << 26);
        check.same("length", unit.told(2, 4), Check.SPACE);
        check.same("top beyond 2^32", unit.build(3, 1, 2), false);
        // B is 64 + 48, T 48 + 128: cut to 33 bits TOP is BASE.
        unit.put(2, 0, Check.told(Check.meta(0, 15, 16384 + (48 + 3) * 256 + 112 + 2)));
        check.same("base", unit.told(2, 3), 48L << 26);
        check.same("length", unit.told(2, 4), 0);
        check.same("top is base", unit.build(3, 1, 2), true);
        // E is 25, B 128 + 8: BASE is 8 * 2^25; T is 8 + 192: TOP is 200 * 2^25, above 2^32.
        unit.put(2, 0, Check.told(Check.meta(0, 15, 16384 + (8 + 3) * 256 + 136 + 1)));
        check.same("base", unit.told(2, 3), 8L << 25);
        check.same("length", unit.told(2, 4), 192L << 25);
        check.same("top beyond 2^32, too", unit.build(3, 1, 2), false);
        // E is 25, B 64 + 120: BASE is 56 * 2^25; T is 0, a block higher: TOP is cut to 0.
        unit.put(2, 0, Check.told(Check.meta(0, 15, 16384 + 3 * 256 + 184 + 1)));
        check.same("base", unit.told(2, 3), 56L << 25);
        check.same("length", unit.told(2, 4), -(56L << 25));
        check.same("base above top", unit.build(3, 1, 2), false);
    }

    private static void givers(Check check) {
        CapUnit unit = new CapUnit();
        check.same("NULL gives nothing", unit.build(1, 0, 0), false);
        unit.root(1, 2, 2, 4095);
        check.same("gate", unit.gate(2, 1), true);
        check.same("a gate gives nothing", unit.build(3, 2, 1), false);
        check.same("seal", unit.seal(2, 1, 1), true);
        check.same("a sealed one gives nothing", unit.build(3, 2, 1), false);
        check.same("a sealed one is built open", unit.build(3, 1, 2), true);
        check.same("open", unit.told(3, 6), 15);
    }

    private static void wrongInputs(Check check) {
        CapUnit unit = new CapUnit();
        unit.root(1, 5, 40, 4095);
        int[] none = {-1, 32, Integer.MIN_VALUE, Integer.MAX_VALUE};
        for (int r : none) {
            check.noRegister("build(" + r + ", 1, 0)", () -> unit.build(r, 1, 0));
            check.noRegister("build(1, " + r + ", 0)", () -> unit.build(1, r, 0));
            check.noRegister("build(1, 1, " + r + ")", () -> unit.build(1, 1, r));
        }
        check.same("nothing changed", unit.told(1, 1), 5);
    }
}
