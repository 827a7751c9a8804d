import java.util.Arrays;

/** Terms: which exception is thrown, and that nothing is changed then. */
public final class ExceptionsTermsTest {
    private static final int ROOTS = 5;

    private final Check check = new Check();

    public static void main(String[] args) {
        ExceptionsTermsTest test = new ExceptionsTermsTest();
        test.firstNamedOfRoot();
        test.firstNamedOfTold();
        test.firstNamedOfReaches();
        test.rootChangesNothing();
        test.putChangesNothing();
        test.onesOfTwoChangeNothing();
        test.onesOfThreeChangeNothing();
        test.thoseThatOnlyTellChangeNothing();
        test.check.end();
    }

    /** Five roots, one that is sealed, a gate, and one without tag: 1 to 8. */
    private static CapUnit prepared() {
        CapUnit unit = new CapUnit();
        unit.root(1, 0, Check.SPACE, 4095);
        unit.root(2, 1000, 60, 7);
        unit.root(3, 3, 2, 4095);
        unit.root(4, -256, 256, 2);
        unit.root(31, 77, 1000, 5);
        unit.seal(5, 2, 3);
        unit.gate(6, 4);
        unit.put(7, -9, 123456789);
        return unit;
    }

    private static CapUnit full() {
        CapUnit unit = prepared();
        for (int i = ROOTS; i < 8; i++) {
            unit.root(10 + i, i, 1, 1);
        }
        return unit;
    }

    private static long[] state(CapUnit unit) {
        long[] state = new long[96];
        for (int r = 0; r < 32; r++) {
            for (int what = 0; what < 3; what++) {
                state[3 * r + what] = unit.told(r, what);
            }
        }
        return state;
    }

    private interface Use {
        void of(CapUnit unit);
    }

    private void nowhere(String call, Use use) {
        CapUnit unit = prepared();
        long[] before = state(unit);
        check.noRegister(call, () -> use.of(unit));
        unchanged(call, unit, before);
    }

    private void nothing(String call, Use use) {
        CapUnit unit = prepared();
        long[] before = state(unit);
        check.noArgument(call, () -> use.of(unit));
        unchanged(call, unit, before);
    }

    private void unchanged(String call, CapUnit unit, long[] before) {
        check.same(call + " left the registers", Arrays.equals(state(unit), before), true);
        check.same(call + " left grown()", unit.grown(), 0);
        for (int i = ROOTS; i < 8; i++) {
            check.same("root " + i + " after " + call, unit.root(9, i, 1, 1), i);
        }
        check.noState("root 9 after " + call, () -> unit.root(9, 0, 1, 1));
    }

    private void firstNamedOfRoot() {
        check.sentence("Of several exceptions the one that is named first is thrown (root)");
        CapUnit some = prepared();
        check.noRegister("register and length", () -> some.root(0, 0, -1, 1));
        check.noRegister("register and space", () -> some.root(32, 1, Check.SPACE, 1));
        check.noRegister("register and perms above", () -> some.root(-1, 0, 1, 4096));
        check.noRegister("register and perms below", () -> some.root(0, 0, 1, -1));
        CapUnit full = full();
        check.noRegister("register and eight", () -> full.root(0, 0, 1, 1));
        check.noRegister("register, length and eight", () -> full.root(32, 0, -1, 1));
        check.noArgument("length and eight", () -> full.root(1, 0, -1, 1));
        check.noArgument("space and eight", () -> full.root(1, -1, 2, 1));
        check.noArgument("perms and eight", () -> full.root(1, 0, 1, -1));
        check.noState("only eight", () -> full.root(1, 0, 1, 1));
    }

    private void firstNamedOfTold() {
        check.sentence("Of several exceptions the one that is named first is thrown (told)");
        CapUnit unit = prepared();
        check.noRegister("told(-1, -1)", () -> unit.told(-1, -1));
        check.noRegister("told(32, 8)", () -> unit.told(32, 8));
        check.noRegister("told(32, 0)", () -> unit.told(32, 0));
        check.noArgument("told(31, 8)", () -> unit.told(31, 8));
    }

    private void firstNamedOfReaches() {
        check.sentence("Of several exceptions the one that is named first is thrown (reaches)");
        CapUnit unit = prepared();
        check.noRegister("reaches(-1, 0, -1)", () -> unit.reaches(-1, 0, -1));
        check.noRegister("reaches(32, 0, 4097)", () -> unit.reaches(32, 0, 4097));
        check.noRegister("reaches(32, 0, 0)", () -> unit.reaches(32, 0, 0));
        check.noArgument("reaches(31, 0, 4097)", () -> unit.reaches(31, 0, 4097));
    }

    private void rootChangesNothing() {
        check.sentence("a call that throws changes nothing (root)");
        nowhere("root(0, ..)", unit -> unit.root(0, 5, 6, 7));
        nowhere("root(32, ..)", unit -> unit.root(32, 5, 6, 7));
        nothing("root of length -1", unit -> unit.root(2, 5, -1, 7));
        nothing("root beyond 2^32", unit -> unit.root(2, -1, 2, 7));
        nothing("root of perms -1", unit -> unit.root(2, 5, 6, -1));
        nothing("root of perms 4096", unit -> unit.root(2, 5, 6, 4096));
        CapUnit full = full();
        long[] before = state(full);
        check.noState("a ninth root", () -> full.root(2, 5, 6, 7));
        check.same("a ninth root left the registers", Arrays.equals(state(full), before), true);
        check.noState("a tenth root", () -> full.root(2, 5, 6, 7));
    }

    private void putChangesNothing() {
        check.sentence("a call that throws changes nothing (put)");
        nowhere("put(-1, ..)", unit -> unit.put(-1, 5, 6));
        nowhere("put(32, ..)", unit -> unit.put(32, 5, 6));
    }

    private void onesOfTwoChangeNothing() {
        check.sentence("a call that throws changes nothing (narrow, move, keep, gate)");
        int[] none = {-1, 32};
        for (int r : none) {
            nowhere("narrow of " + r, unit -> unit.narrow(2, r, 5, false));
            nowhere("narrow to " + r, unit -> unit.narrow(r, 2, 5, false));
            nowhere("move of " + r, unit -> unit.move(2, r, 1001));
            nowhere("move to " + r, unit -> unit.move(r, 2, 1001));
            nowhere("keep of " + r, unit -> unit.keep(2, r, 1));
            nowhere("keep to " + r, unit -> unit.keep(r, 2, 1));
            nowhere("gate of " + r, unit -> unit.gate(2, r));
            nowhere("gate to " + r, unit -> unit.gate(r, 2));
        }
    }

    private void onesOfThreeChangeNothing() {
        check.sentence("a call that throws changes nothing (seal, unseal, build)");
        int[] none = {-1, 32};
        for (int r : none) {
            nowhere("seal to " + r, unit -> unit.seal(r, 2, 3));
            nowhere("seal of " + r, unit -> unit.seal(2, r, 3));
            nowhere("seal by " + r, unit -> unit.seal(2, 2, r));
            nowhere("unseal to " + r, unit -> unit.unseal(r, 5, 3));
            nowhere("unseal of " + r, unit -> unit.unseal(5, r, 3));
            nowhere("unseal by " + r, unit -> unit.unseal(5, 5, r));
            nowhere("build to " + r, unit -> unit.build(r, 1, 7));
            nowhere("build by " + r, unit -> unit.build(7, r, 7));
            nowhere("build of " + r, unit -> unit.build(7, 1, r));
        }
    }

    private void thoseThatOnlyTellChangeNothing() {
        check.sentence("a call that throws changes nothing (subset, told, reaches, pack, rounded)");
        nowhere("subset(32, 1)", unit -> unit.subset(32, 1));
        nowhere("subset(1, 32)", unit -> unit.subset(1, 32));
        nowhere("told(32, 1)", unit -> unit.told(32, 1));
        nothing("told(1, 8)", unit -> unit.told(1, 8));
        nowhere("reaches(32, 1, 1)", unit -> unit.reaches(32, 1, 1));
        nothing("reaches(1, 1, 4097)", unit -> unit.reaches(1, 1, 4097));
        nothing("pack(0, -1)", unit -> unit.pack(0, -1));
        nothing("pack(-1, 2)", unit -> unit.pack(-1, 2));
        nothing("rounded(-1, true)", unit -> unit.rounded(-1, true));
    }
}
