/** Promise 7. */
public final class SealTest {
    private static final int SEAL = 128;

    public static void main(String[] args) {
        Check check = new Check();
        types(check);
        keys(check);
        targets(check);
        wrongInputs(check);
        check.end();
    }

    private static CapUnit unit() {
        CapUnit unit = new CapUnit();
        unit.root(1, 1000, 60, 5);
        unit.root(9, 0, 60, SEAL);
        return unit;
    }

    private static void types(Check check) {
        CapUnit unit = unit();
        for (int address = 0; address < 20; address++) {
            unit.move(9, 9, address);
            check.same("seal at " + address, unit.seal(2, 1, 9), address < 12);
            check.register("sealed at " + address, unit, 2, address < 12 ? 1 : 0, 1000,
                    Check.told(Check.meta(5, address % 16, 36 * 256 + 232)), 1000, 60, 5, address % 16, 0);
        }
        unit.move(9, 9, 3);
        check.same("seal to 0", unit.seal(0, 1, 9), false);
        check.isNull("seal to 0", unit, 0);
        check.same("seal itself", unit.seal(9, 9, 9), true);
        check.same("its type", unit.told(9, 6), 3);
    }

    private static void keys(Check check) {
        CapUnit unit = unit();
        unit.root(8, 0, Check.SPACE, 4095 - SEAL);
        check.same("no SEAL", unit.seal(2, 1, 8), false);
        unit.root(8, 0, Check.SPACE, 4095);
        unit.move(8, 8, -5);
        check.same("address below 0 is far above 12", unit.seal(2, 1, 8), false);
        check.same("type", unit.told(2, 6), 11);
        unit.root(7, 4, 2, SEAL);
        boolean[] in = {false, true, true, false};
        for (int i = 0; i < 4; i++) {
            check.same("move", unit.move(7, 7, 3 + i), true);
            check.same("key of bytes 4 and 5 at " + (3 + i), unit.seal(2, 1, 7), in[i]);
        }
        unit.put(6, 5, Check.told(Check.meta(SEAL, 15, 17154)));
        check.same("key without tag", unit.seal(2, 1, 6), false);
        check.same("type nevertheless", unit.told(2, 6), 5);
        unit.root(5, 2, 2, 4095);
        check.same("gate", unit.gate(4, 5), true);
        check.same("key that is a gate", unit.seal(2, 1, 4), false);
        check.same("seal", unit.seal(4, 5, 5), true);
        check.same("key that is sealed", unit.seal(2, 1, 4), false);
    }

    private static void targets(Check check) {
        CapUnit unit = unit();
        unit.move(9, 9, 6);
        check.same("NULL", unit.seal(2, 0, 9), false);
        check.register("NULL sealed", unit, 2, 0, 0, Check.told(Check.meta(0, 6, 17154)));
        check.same("seal", unit.seal(2, 1, 9), true);
        unit.move(9, 9, 7);
        check.same("sealed anew", unit.seal(3, 2, 9), false);
        check.same("its type", unit.told(3, 6), 7);
        unit.root(4, 50, 2, 2);
        check.same("gate", unit.gate(4, 4), true);
        check.same("a gate", unit.seal(4, 4, 9), false);
        unit.put(5, 1, 32768);
        unit.seal(5, 5, 9);
        check.same("the free bit is kept", unit.told(5, 2), Check.told(Check.meta(0, 7, 17154 + 32768)));
    }

    private static void wrongInputs(Check check) {
        CapUnit unit = unit();
        int[] none = {-1, 32, Integer.MIN_VALUE, Integer.MAX_VALUE};
        for (int r : none) {
            check.noRegister("seal(" + r + ", 1, 9)", () -> unit.seal(r, 1, 9));
            check.noRegister("seal(1, " + r + ", 9)", () -> unit.seal(1, r, 9));
            check.noRegister("seal(1, 1, " + r + ")", () -> unit.seal(1, 1, r));
        }
        check.same("nothing changed", unit.told(1, 6), 15);
    }
}
