/** Promise 11. */
public final class SubsetTest {
    public static void main(String[] args) {
        Check check = new Check();
        CapUnit unit = new CapUnit();
        unit.root(1, 1000, 60, 7);
        unit.root(2, 1000, 59, 7);
        unit.root(3, 1001, 59, 5);
        check.same("itself", unit.subset(1, 1), true);
        check.same("NULL in NULL", unit.subset(0, 0), true);
        check.same("a byte less", unit.subset(1, 2), true);
        check.same("a byte more", unit.subset(2, 1), false);
        check.same("a byte later, fewer perms", unit.subset(1, 3), true);
        check.same("a byte earlier", unit.subset(3, 1), false);
        unit.keep(4, 1, 5);
        check.same("fewer perms", unit.subset(1, 4), true);
        check.same("more perms", unit.subset(4, 1), false);
        unit.keep(5, 1, 6);
        check.same("other perms", unit.subset(4, 5), false);
        tags(check, unit);
        wrongInputs(check, unit);
        check.end();
    }

    private static void tags(Check check, CapUnit unit) {
        unit.put(6, 1000, (int) unit.told(1, 2));
        check.same("only the outer has a tag", unit.subset(1, 6), false);
        check.same("only the inner has a tag", unit.subset(6, 1), false);
        unit.put(7, 1000, (int) unit.told(4, 2));
        check.same("none has a tag", unit.subset(6, 7), true);
        check.same("none has a tag, more perms", unit.subset(7, 6), false);
        unit.gate(8, 1);
        check.same("gates count as others", unit.subset(8, 1), true);
        check.same("gates count as others", unit.subset(1, 8), true);
        // 1: BASE 56 * 2^25 above TOP 0: it starts in NULL's bounds and ends there.
        unit.put(9, 0, Check.told(Check.meta(0, 15, 16384 + 3 * 256 + 184 + 1)));
        check.same("base above top", unit.subset(0, 9), true);
    }

    private static void wrongInputs(Check check, CapUnit unit) {
        int[] none = {-1, 32, Integer.MIN_VALUE, Integer.MAX_VALUE};
        for (int r : none) {
            check.noRegister("subset(" + r + ", 1)", () -> unit.subset(r, 1));
            check.noRegister("subset(1, " + r + ")", () -> unit.subset(1, r));
        }
    }
}
