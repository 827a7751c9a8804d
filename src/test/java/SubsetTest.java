/** Promise 11. */
public final class SubsetTest {
    private final Check check = new Check();

    public static void main(String[] args) {
        SubsetTest test = new SubsetTest();
        test.itself();
        test.tags();
        test.withinBase();
        test.withinTop();
        test.perms();
        test.nothingElse();
        test.registers();
        test.check.end();
    }

    /** 1 is 1000 to 1060 with perms 7. */
    private static CapUnit unit() {
        CapUnit unit = new CapUnit();
        unit.root(1, 1000, 60, 7);
        return unit;
    }

    private void itself() {
        check.sentence("Whether .. d's BOUNDS are within c's, and its PERMS among c's (c itself)");
        CapUnit unit = unit();
        check.same("one with a tag", unit.subset(1, 1), true);
        check.same("NULL", unit.subset(0, 0), true);
    }

    private void tags() {
        check.sentence("c and d have both a TAG or both none");
        CapUnit unit = unit();
        unit.put(6, 1000, (int) unit.told(1, 2));
        check.same("both", unit.subset(1, 1), true);
        check.same("only c", unit.subset(1, 6), false);
        check.same("only d", unit.subset(6, 1), false);
        check.same("none", unit.subset(6, 6), true);
        unit.put(7, 0, 0);
        check.same("none, NULL and one put", unit.subset(0, 7), true);
    }

    private void withinBase() {
        check.sentence("d's BOUNDS are within c's (BASE)");
        CapUnit unit = unit();
        unit.root(2, 1001, 59, 7);
        check.same("a byte later", unit.subset(1, 2), true);
        check.same("a byte earlier", unit.subset(2, 1), false);
        unit.root(3, 999, 0, 7);
        check.same("no byte, a byte earlier", unit.subset(1, 3), false);
    }

    private void withinTop() {
        check.sentence("d's BOUNDS are within c's (TOP)");
        CapUnit unit = unit();
        unit.root(2, 1000, 59, 7);
        check.same("a byte less", unit.subset(1, 2), true);
        check.same("a byte more", unit.subset(2, 1), false);
        unit.root(3, 1060, 0, 7);
        check.same("no byte at the end", unit.subset(1, 3), true);
        unit.root(4, 1061, 0, 7);
        check.same("no byte behind the end", unit.subset(1, 4), false);
        unit.put(5, -1, Check.told(Check.meta(0, 15, 1017)));
        check.same("beyond 2^32", unit.subset(0, 5), false);
        // BASE 56 * 2^25 is above TOP 0: it starts in NULL's bounds and ends there.
        unit.put(6, 0, Check.told(Check.meta(0, 15, Check.scaled(25, 0, 184))));
        check.same("base above top", unit.subset(0, 6), true);
    }

    private void perms() {
        check.sentence("and its PERMS among c's");
        CapUnit unit = unit();
        unit.keep(4, 1, 5);
        check.same("fewer", unit.subset(1, 4), true);
        check.same("more", unit.subset(4, 1), false);
        unit.keep(5, 1, 6);
        check.same("as many others", unit.subset(4, 5), false);
        unit.keep(6, 1, 0);
        check.same("none", unit.subset(1, 6), true);
        check.same("some, among none", unit.subset(6, 4), false);
        unit.root(7, 1000, 60, 2048);
        unit.root(8, 1000, 60, 2047);
        check.same("the last", unit.subset(8, 7), false);
        unit.put(9, 1000, (int) unit.told(1, 2));
        unit.put(10, 1000, (int) unit.told(4, 2));
        check.same("fewer, without tags", unit.subset(9, 10), true);
        check.same("more, without tags", unit.subset(10, 9), false);
    }

    private void nothingElse() {
        check.sentence("Whether (these three, and no more)");
        CapUnit unit = unit();
        check.same("gate", unit.gate(8, 1), true);
        check.same("in a gate", unit.subset(8, 1), true);
        check.same("a gate", unit.subset(1, 8), true);
        unit.move(9, 1, 990);
        check.same("another address", unit.subset(1, 9), true);
        check.same("nothing changes", unit.told(1, 1), 1000);
    }

    private void registers() {
        check.sentence("IndexOutOfBoundsException if c or d is not 0 to 31");
        CapUnit unit = unit();
        for (int r : Check.noRegisters()) {
            check.noRegister("subset(" + r + ", 1)", () -> unit.subset(r, 1));
            check.noRegister("subset(1, " + r + ")", () -> unit.subset(1, r));
            check.noRegister("subset(" + r + ", " + r + ")", () -> unit.subset(r, r));
        }
        check.same("subset(0, 31)", unit.subset(0, 31), true);
        check.same("subset(31, 0)", unit.subset(31, 0), true);
    }
}
