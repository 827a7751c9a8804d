/** Promise 10. */
public final class BuildTest {
    private static final long SPACE = Check.SPACE;

    private final Check check = new Check();

    public static void main(String[] args) {
        BuildTest test = new BuildTest();
        test.becomes();
        test.openUnlessGate();
        test.giverWithoutTag();
        test.giverNotOpen();
        test.baseNotAboveTop();
        test.boundsWithinBase();
        test.boundsWithinTop();
        test.topBeyondTheSpace();
        test.permsAmong();
        test.tagOfThePattern();
        test.registers();
        test.check.end();
    }

    private static int told(CapUnit unit, int perms, int type, int base, long length) {
        return Check.told(Check.meta(perms, type, unit.pack(base, length) & 32767));
    }

    /** 1 is 1000 to 1060 with perms 7. */
    private static CapUnit unit() {
        CapUnit unit = new CapUnit();
        unit.root(1, 1000, 60, 7);
        return unit;
    }

    private void becomes() {
        check.sentence("REGISTER d becomes e .. with a TAG");
        CapUnit unit = unit();
        int meta = told(unit, 5, 15, 1010, 20);
        unit.put(2, 1012, meta);
        check.same("build(3, 1, 2)", unit.build(3, 1, 2), true);
        check.register("built", unit, 3, 1, 1012, meta, 1010, 20, 5, 15, 2);
        check.same("the pattern stays", unit.told(2, 0), 0);
        check.same("in place", unit.build(2, 1, 2), true);
        unit.put(4, 1012, meta ^ 32768);
        check.same("with the free bit", unit.build(4, 1, 4), true);
        check.same("which is kept", unit.told(4, 2), meta ^ 32768);
        unit.put(4, 990, told(unit, 5, 15, 1010, 20));
        check.same("its address need not be in bounds", unit.build(4, 1, 4), true);
        check.same("its address", unit.told(4, 1), 990);
    }

    private void openUnlessGate() {
        check.sentence("open unless it is a gate");
        CapUnit unit = unit();
        for (int type = 0; type < 16; type++) {
            unit.put(2, 1000, told(unit, 0, type, 1000, 60));
            check.same("of type " + type, unit.build(3, 1, 2), true);
            check.same("its type", unit.told(3, 6), type == 14 ? 14 : 15);
            check.same("without tag", unit.build(3, 0, 2), false);
            check.same("its type", unit.told(3, 6), type == 14 ? 14 : 15);
        }
    }

    private void giverWithoutTag() {
        check.sentence("with a TAG if c has one");
        CapUnit unit = unit();
        check.same("NULL gives nothing", unit.build(2, 0, 0), false);
        unit.put(2, 1000, (int) unit.told(1, 2));
        check.same("one put gives nothing", unit.build(3, 2, 2), false);
        check.same("one with a tag does", unit.build(3, 1, 2), true);
    }

    private void giverNotOpen() {
        check.sentence("and is open");
        CapUnit unit = new CapUnit();
        unit.root(1, 2, 2, 4095);
        check.same("gate", unit.gate(2, 1), true);
        check.same("a gate gives nothing", unit.build(3, 2, 1), false);
        check.same("a gate is built", unit.build(3, 1, 2), true);
        check.same("seal", unit.seal(2, 1, 1), true);
        check.same("a sealed one gives nothing", unit.build(3, 2, 1), false);
        check.same("a sealed one is built", unit.build(3, 1, 2), true);
        check.same("open", unit.told(3, 6), 15);
    }

    private void baseNotAboveTop() {
        check.sentence("e's BASE is not above its TOP");
        CapUnit unit = new CapUnit();
        unit.root(1, 0, SPACE, 4095);
        // E is 25, B 184: BASE is 56 * 2^25; T is 0: TOP is 0.
        unit.put(2, 0, Check.told(Check.meta(0, 15, Check.scaled(25, 0, 184))));
        check.same("length", unit.told(2, 4), -(56L << 25));
        check.same("base above top", unit.build(3, 1, 2), false);
        // E is 26, B 112, T 176: cut to 32 and 33 bits both are 48 * 2^26.
        unit.put(2, 0, Check.told(Check.meta(0, 15, Check.scaled(26, 48, 112))));
        check.same("length", unit.told(2, 4), 0);
        check.same("base is top", unit.build(3, 1, 2), true);
        unit.put(2, 77, told(unit, 0, 15, 77, 0));
        check.same("base is top, short", unit.build(3, 1, 2), true);
    }

    private void boundsWithinBase() {
        check.sentence("its BOUNDS are within c's (BASE)");
        CapUnit unit = unit();
        unit.put(2, 1000, told(unit, 7, 15, 1000, 2));
        check.same("the same base", unit.build(3, 1, 2), true);
        unit.put(2, 999, told(unit, 7, 15, 999, 2));
        check.same("a byte lower", unit.build(3, 1, 2), false);
        check.same("which it becomes", unit.told(3, 3), 999);
        unit.put(2, 999, told(unit, 7, 15, 999, 0));
        check.same("no byte, a byte lower", unit.build(3, 1, 2), false);
    }

    private void boundsWithinTop() {
        check.sentence("its BOUNDS are within c's (TOP)");
        CapUnit unit = unit();
        unit.put(2, 1000, told(unit, 7, 15, 1000, 60));
        check.same("the same", unit.build(3, 1, 2), true);
        unit.put(2, 1000, told(unit, 7, 15, 1000, 61));
        check.same("a byte longer", unit.build(3, 1, 2), false);
        unit.put(2, 1060, told(unit, 7, 15, 1060, 0));
        check.same("no byte at the end", unit.build(3, 1, 2), true);
        unit.put(2, 1061, told(unit, 7, 15, 1061, 0));
        check.same("no byte behind the end", unit.build(3, 1, 2), false);
    }

    private void topBeyondTheSpace() {
        check.sentence("its BOUNDS are within c's (TOP above 2^32)");
        CapUnit unit = new CapUnit();
        unit.root(1, 0, SPACE, 4095);
        unit.put(2, 0, 0);
        check.same("just up to 2^32", unit.build(3, 1, 2), true);
        // E is 26, B 48, T 112: BASE is 48 * 2^26, TOP 2^32 higher.
        unit.put(2, 0, Check.told(Check.meta(0, 15, Check.scaled(26, 48, 48))));
        check.same("length", unit.told(2, 4), SPACE);
        check.same("all, but later", unit.build(3, 1, 2), false);
        // E is 25, B 136, cut to 8; T 200.
        unit.put(2, 0, Check.told(Check.meta(0, 15, Check.scaled(25, 8, 136))));
        check.same("length", unit.told(2, 4), 192L << 25);
        check.same("longer than all", unit.build(3, 1, 2), false);
        unit.put(2, -1, Check.told(Check.meta(0, 15, 1017)));
        check.same("three bytes beyond", unit.build(3, 1, 2), false);
    }

    private void permsAmong() {
        check.sentence("its PERMS among c's");
        CapUnit unit = unit();
        for (int perm = 0; perm < 12; perm++) {
            unit.put(2, 1000, told(unit, 1 << perm, 15, 1000, 60));
            check.same("perm " + perm, unit.build(3, 1, 2), perm < 3);
        }
        unit.put(2, 1000, told(unit, 7, 15, 1000, 60));
        check.same("all of them", unit.build(3, 1, 2), true);
        unit.put(2, 1000, told(unit, 15, 15, 1000, 60));
        check.same("all and one more", unit.build(3, 1, 2), false);
        check.same("which it becomes", unit.told(3, 5), 15);
        unit.put(2, 1000, told(unit, 0, 15, 1000, 60));
        check.same("none", unit.build(3, 1, 2), true);
    }

    private void tagOfThePattern() {
        check.sentence("with a TAG if c .. (whatever TAG e has)");
        CapUnit unit = unit();
        unit.root(4, 0, SPACE, 4095);
        check.same("one with a tag, wider than the giver", unit.build(5, 1, 4), false);
        check.register("all without tag", unit, 5, 0, 0, Check.told(Check.meta(4095, 15, 17154)), 0, SPACE);
        check.same("one with a tag, by NULL", unit.build(5, 0, 4), false);
        check.same("one with a tag, by itself", unit.build(5, 4, 4), true);
    }

    private void registers() {
        check.sentence("Likewise (e too)");
        CapUnit unit = unit();
        for (int r : Check.noRegisters()) {
            check.noRegister("build(" + r + ", 1, 1)", () -> unit.build(r, 1, 1));
            check.noRegister("build(2, " + r + ", 1)", () -> unit.build(2, r, 1));
            check.noRegister("build(2, 1, " + r + ")", () -> unit.build(2, 1, r));
        }
        check.same("build(31, 1, 1)", unit.build(31, 1, 1), true);
        check.same("build(2, 31, 31)", unit.build(2, 31, 31), true);
        check.same("build(0, 1, 1)", unit.build(0, 1, 1), false);
    }
}
