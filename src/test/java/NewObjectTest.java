/** Promise 1. */
public final class NewObjectTest {
    public static void main(String[] args) {
        Check check = new Check();
        CapUnit unit = new CapUnit();
        for (int r = 0; r < 32; r++) {
            check.isNull("new", unit, r);
        }
        check.same("grown()", unit.grown(), 0);
        noRootsYet(check);
        objectsStandAlone(check);
        check.end();
    }

    private static void noRootsYet(Check check) {
        CapUnit unit = new CapUnit();
        for (int r = 1; r <= 8; r++) {
            check.same("root " + r, unit.root(r, 16 * r, 8, 0), 16 * r);
        }
    }

    private static void objectsStandAlone(Check check) {
        CapUnit one = new CapUnit();
        for (int r = 1; r <= 8; r++) {
            one.root(r, 0, 64, 4095);
        }
        CapUnit other = new CapUnit();
        check.isNull("beside one with roots", other, 1);
        check.same("root beside one with eight", other.root(1, 5, 1, 1), 5);
    }
}
