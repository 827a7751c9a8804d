/** Promise 9. */
public final class GateTest {
    private static final int RUN = 2;
    private static final int BOUNDS = Check.plain(36, 232);

    private final Check check = new Check();

    public static void main(String[] args) {
        GateTest test = new GateTest();
        test.becomes();
        test.withoutTag();
        test.notOpen();
        test.withoutRun();
        test.registers();
        test.check.end();
    }

    private void becomes() {
        check.sentence("REGISTER d becomes c as a gate (TYPE 14)");
        CapUnit unit = new CapUnit();
        unit.root(1, 1000, 60, RUN);
        check.same("gate(2, 1)", unit.gate(2, 1), true);
        check.register("a gate", unit, 2, 1, 1000, Check.told(Check.meta(RUN, 14, BOUNDS)), 1000, 60, RUN, 14, 0);
        check.same("the source stays open", unit.told(1, 6), 15);
        check.same("in place", unit.gate(1, 1), true);
        check.same("its type", unit.told(1, 6), 14);
    }

    private void withoutTag() {
        check.sentence("no TAG unless it has one");
        CapUnit unit = new CapUnit();
        unit.put(9, 4, Check.told(Check.meta(RUN, 15, 32768)));
        check.same("without tag", unit.gate(8, 9), false);
        check.register("without tag", unit, 8, 0, 4, Check.told(Check.meta(RUN, 14, 32768)));
        check.same("NULL", unit.gate(8, 0), false);
        check.same("its type", unit.told(8, 6), 14);
    }

    private void notOpen() {
        check.sentence("is open");
        CapUnit unit = new CapUnit();
        unit.root(1, 1000, 60, RUN);
        check.same("gate", unit.gate(2, 1), true);
        check.same("a gate again", unit.gate(3, 2), false);
        check.same("its type", unit.told(3, 6), 14);
        unit.root(6, 3, 1, 4095);
        check.same("seal", unit.seal(7, 6, 6), true);
        check.same("a sealed one", unit.gate(8, 7), false);
        check.same("its type", unit.told(8, 6), 14);
    }

    private void withoutRun() {
        check.sentence("and has RUN");
        CapUnit unit = new CapUnit();
        unit.root(4, 1000, 60, 4095 - RUN);
        check.same("all but RUN", unit.gate(5, 4), false);
        check.register("all but RUN", unit, 5, 0, 1000, Check.told(Check.meta(4095 - RUN, 14, BOUNDS)));
        unit.root(4, 1000, 60, 4095);
        check.same("all", unit.gate(5, 4), true);
    }

    private void registers() {
        check.sentence("Likewise (IndexOutOfBoundsException if c or d is not 0 to 31)");
        CapUnit unit = new CapUnit();
        unit.root(1, 5, 40, 4095);
        for (int r : Check.noRegisters()) {
            check.noRegister("gate(" + r + ", 1)", () -> unit.gate(r, 1));
            check.noRegister("gate(1, " + r + ")", () -> unit.gate(1, r));
            check.noRegister("gate(" + r + ", " + r + ")", () -> unit.gate(r, r));
        }
        check.same("gate(31, 1)", unit.gate(31, 1), true);
        check.same("gate(2, 31)", unit.gate(2, 31), false);
        check.same("gate(0, 1)", unit.gate(0, 1), false);
    }
}
