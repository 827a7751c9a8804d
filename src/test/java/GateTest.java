/** Promise 9. */
public final class GateTest {
    private static final int RUN = 2;

    public static void main(String[] args) {
        Check check = new Check();
        CapUnit unit = new CapUnit();
        unit.root(1, 1000, 60, RUN);
        check.same("gate(2, 1)", unit.gate(2, 1), true);
        int bounds = 36 * 256 + 232;
        check.register("a gate", unit, 2, 1, 1000, Check.told(Check.meta(RUN, 14, bounds)), 1000, 60, RUN, 14, 0);
        check.same("a gate again", unit.gate(3, 2), false);
        check.same("its type", unit.told(3, 6), 14);
        unit.root(4, 1000, 60, 4095 - RUN);
        check.same("without RUN", unit.gate(5, 4), false);
        check.register("without RUN", unit, 5, 0, 1000, Check.told(Check.meta(4095 - RUN, 14, bounds)));
        unit.root(6, 3, 1, 4095);
        check.same("seal", unit.seal(7, 6, 6), true);
        check.same("a sealed one", unit.gate(8, 7), false);
        check.same("its type", unit.told(8, 6), 14);
        unit.put(9, 4, Check.told(Check.meta(RUN, 15, 0)));
        check.same("without tag", unit.gate(9, 9), false);
        check.register("without tag", unit, 9, 0, 4, Check.told(Check.meta(RUN, 14, 0)));
        check.same("to 0", unit.gate(0, 1), false);
        check.isNull("to 0", unit, 0);
        check.same("in place", unit.gate(1, 1), true);
        wrongInputs(check);
        check.end();
    }

    private static void wrongInputs(Check check) {
        CapUnit unit = new CapUnit();
        unit.root(1, 5, 40, 4095);
        int[] none = {-1, 32, Integer.MIN_VALUE, Integer.MAX_VALUE};
        for (int r : none) {
            check.noRegister("gate(" + r + ", 1)", () -> unit.gate(r, 1));
            check.noRegister("gate(1, " + r + ")", () -> unit.gate(1, r));
            check.noRegister("gate(0, " + r + ")", () -> unit.gate(0, r));
        }
        check.same("nothing changed", unit.told(1, 6), 15);
    }
}
