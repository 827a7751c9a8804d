/** Promise 1. */
public final class NewObjectTest {
    private final Check check = new Check();

    public static void main(String[] args) {
        NewObjectTest test = new NewObjectTest();
        test.allIsNull();
        test.noRoots();
        test.objectsStandAlone();
        test.mostCalls();
        test.check.end();
    }

    private void allIsNull() {
        check.sentence("All is NULL");
        CapUnit unit = new CapUnit();
        for (int r = 0; r < 32; r++) {
            check.isNull("new", unit, r);
        }
    }

    private void noRoots() {
        check.sentence("there are no ROOTS");
        CapUnit unit = new CapUnit();
        check.same("grown()", unit.grown(), 0);
        for (int r = 1; r <= 8; r++) {
            check.same("root " + r, unit.root(r, 16 * r, 8, 0), 16 * r);
        }
    }

    private void objectsStandAlone() {
        check.sentence("All is NULL; there are no ROOTS, beside another object with eight");
        CapUnit one = new CapUnit();
        for (int r = 1; r <= 8; r++) {
            one.root(r, 0, 64, 4095);
        }
        CapUnit other = new CapUnit();
        check.isNull("the other", other, 1);
        check.same("its first root", other.root(1, 5, 1, 1), 5);
        check.same("the one keeps its own", one.told(1, 1), 0);
    }

    private void mostCalls() {
        check.sentence("An object is used for at most 512 calls after it has been made");
        CapUnit unit = new CapUnit();
        unit.root(1, 0, 1000, 1);
        for (int call = 2; call <= 511; call++) {
            check.same("call " + call, unit.move(1, 1, call), true);
        }
        check.same("call 512", unit.told(1, 1), 511);
    }
}
