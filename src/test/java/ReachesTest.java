/** Promise 13. */
public final class ReachesTest {
    public static void main(String[] args) {
        Check check = new Check();
        CapUnit unit = new CapUnit();
        unit.root(1, 1000, 60, 0);
        check.same("all of it", unit.reaches(1, 1000, 60), true);
        check.same("a byte more", unit.reaches(1, 1000, 61), false);
        check.same("a byte earlier", unit.reaches(1, 999, 1), false);
        check.same("no byte, earlier", unit.reaches(1, 999, 0), false);
        check.same("the last byte", unit.reaches(1, 1059, 1), true);
        check.same("no byte at the end", unit.reaches(1, 1060, 0), true);
        check.same("a byte at the end", unit.reaches(1, 1060, 1), false);
        check.same("no byte behind the end", unit.reaches(1, 1061, 0), false);
        unit.root(2, 1000, 100, 0);
        check.same("the rounded ones", unit.reaches(2, 1000, 104), true);
        check.same("beyond the rounded ones", unit.reaches(2, 1000, 105), false);
        edgesOfTheSpace(check, unit);
        wrongInputs(check, unit);
        check.end();
    }

    private static void edgesOfTheSpace(Check check, CapUnit unit) {
        check.same("the last byte of all, without tag", unit.reaches(0, -1, 1), true);
        check.same("beyond all", unit.reaches(0, -1, 2), false);
        check.same("most bytes", unit.reaches(0, -4096, 4096), true);
        check.same("most bytes and beyond", unit.reaches(0, -4095, 4096), false);
        unit.put(3, -1, Check.told(1017));
        check.same("bounds beyond 2^32", unit.reaches(3, -1, 4), true);
        check.same("beyond these", unit.reaches(3, -1, 5), false);
        unit.root(4, Integer.MIN_VALUE, 60, 0);
        check.same("x without sign", unit.reaches(4, Integer.MIN_VALUE, 60), true);
        check.same("x without sign, before", unit.reaches(4, Integer.MAX_VALUE, 1), false);
    }

    private static void wrongInputs(Check check, CapUnit unit) {
        int[] none = {-1, 32, Integer.MIN_VALUE, Integer.MAX_VALUE};
        for (int r : none) {
            check.noRegister("reaches(" + r + ", 0, 1)", () -> unit.reaches(r, 0, 1));
            check.noRegister("reaches(" + r + ", 0, -1)", () -> unit.reaches(r, 0, -1));
        }
        int[] counts = {-1, 4097, Integer.MIN_VALUE, Integer.MAX_VALUE};
        for (int n : counts) {
            check.noArgument("reaches(0, 0, " + n + ")", () -> unit.reaches(0, 0, n));
        }
    }
}
