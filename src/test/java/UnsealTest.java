/** Promise 8. */
public final class UnsealTest {
    private static final int GLOBAL = 1;
    private static final int UNSEAL = 512;

    public static void main(String[] args) {
        Check check = new Check();
        opens(check);
        keys(check);
        targets(check);
        wrongInputs(check);
        check.end();
    }

    /** 1 is open, 2 is that sealed with type 5, 8 has all perms at 5, 9 only UNSEAL. */
    private static CapUnit unit() {
        CapUnit unit = new CapUnit();
        unit.root(1, 1000, 60, 7);
        unit.root(8, 0, 60, 4095);
        unit.move(8, 8, 5);
        unit.seal(2, 1, 8);
        unit.keep(9, 8, UNSEAL);
        return unit;
    }

    private static void opens(Check check) {
        CapUnit unit = unit();
        int bounds = 36 * 256 + 232;
        check.same("by a key that is global", unit.unseal(3, 2, 8), true);
        check.register("global", unit, 3, 1, 1000, Check.told(Check.meta(7, 15, bounds)), 1000, 60, 7, 15, 0);
        check.same("by a key that is not", unit.unseal(3, 2, 9), true);
        check.register("not global", unit, 3, 1, 1000, Check.told(Check.meta(6, 15, bounds)), 1000, 60, 6, 15, 0);
        unit.keep(4, 1, 6);
        unit.seal(4, 4, 8);
        check.same("one that is not", unit.unseal(4, 4, 8), true);
        check.same("is not made global", unit.told(4, 5), 6);
        check.same("to 0", unit.unseal(0, 2, 8), false);
        check.isNull("to 0", unit, 0);
        for (int type = 0; type < 12; type++) {
            unit.move(8, 8, type);
            check.same("seal by " + type, unit.seal(5, 1, 8), true);
            check.same("unseal by " + type, unit.unseal(5, 5, 8), true);
        }
    }

    private static void keys(Check check) {
        CapUnit unit = unit();
        unit.move(7, 8, 4);
        check.same("another type below", unit.unseal(3, 2, 7), false);
        unit.move(7, 8, 6);
        check.same("another type above", unit.unseal(3, 2, 7), false);
        check.same("open nevertheless", unit.told(3, 6), 15);
        unit.move(7, 8, 21);
        check.same("the same type mod 16", unit.unseal(3, 2, 7), false);
        unit.keep(7, 8, 4095 - UNSEAL);
        check.same("without UNSEAL", unit.unseal(3, 2, 7), false);
        unit.root(6, 4, 1, 4095);
        check.same("move", unit.move(6, 6, 5), true);
        check.same("a byte above the key's bounds", unit.unseal(3, 2, 6), false);
        unit.root(6, 6, 1, 4095);
        check.same("move", unit.move(6, 6, 5), true);
        check.same("a byte below the key's bounds", unit.unseal(3, 2, 6), false);
        unit.root(6, 5, 1, UNSEAL);
        check.same("just in the key's bounds", unit.unseal(3, 2, 6), true);
        unit.put(7, 5, Check.told(Check.meta(4095 - GLOBAL, 15, 17154)));
        check.same("key without tag", unit.unseal(3, 2, 7), false);
        check.register("key without tag", unit, 3, 0, 1000, Check.told(Check.meta(6, 15, 36 * 256 + 232)));
        unit.gate(7, 8);
        check.same("key that is a gate", unit.unseal(3, 2, 7), false);
        unit.seal(7, 8, 8);
        check.same("key that is sealed", unit.unseal(3, 2, 7), false);
    }

    private static void targets(Check check) {
        CapUnit unit = unit();
        unit.put(3, 1000, (int) unit.told(2, 2));
        check.same("without tag", unit.unseal(3, 3, 8), false);
        check.same("open nevertheless", unit.told(3, 6), 15);
        unit.root(10, 0, 60, 4095);
        unit.gate(4, 1);
        for (int address = 12; address < 18; address++) {
            unit.move(10, 10, address);
            check.same("one that is open by " + address, unit.unseal(3, 1, 10), false);
            check.same("a gate by " + address, unit.unseal(3, 4, 10), false);
            check.same("the gate is opened by " + address, unit.told(3, 6), 15);
        }
    }

    private static void wrongInputs(Check check) {
        CapUnit unit = unit();
        int[] none = {-1, 32, Integer.MIN_VALUE, Integer.MAX_VALUE};
        for (int r : none) {
            check.noRegister("unseal(" + r + ", 2, 8)", () -> unit.unseal(r, 2, 8));
            check.noRegister("unseal(2, " + r + ", 8)", () -> unit.unseal(2, r, 8));
            check.noRegister("unseal(2, 2, " + r + ")", () -> unit.unseal(2, 2, r));
        }
        check.same("nothing changed", unit.told(2, 6), 5);
    }
}
