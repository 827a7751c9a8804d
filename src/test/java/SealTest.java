/** Promise 7. */
public final class SealTest {
    private static final int SEAL = 128;

    private final Check check = new Check();

    public static void main(String[] args) {
        SealTest test = new SealTest();
        test.becomes();
        test.typeMod16();
        test.targetWithoutTag();
        test.keyWithoutTag();
        test.targetNotOpen();
        test.keyNotOpen();
        test.keyWithoutSeal();
        test.addressInBounds();
        test.below12();
        test.withoutSign();
        test.registers();
        test.check.end();
    }

    /** 1 is open, 9 is a key for addresses from 0 on. */
    private static CapUnit unit() {
        CapUnit unit = new CapUnit();
        unit.root(1, 1000, 60, 5);
        unit.root(9, 0, 60, SEAL);
        return unit;
    }

    private void becomes() {
        check.sentence("REGISTER d becomes c with TYPE that of k's ADDRESS");
        CapUnit unit = unit();
        unit.move(9, 9, 3);
        check.same("seal(2, 1, 9)", unit.seal(2, 1, 9), true);
        check.register("sealed", unit, 2, 1, 1000,
                Check.told(Check.meta(5, 3, Check.plain(36, 232))), 1000, 60, 5, 3, 0);
        check.same("the source stays open", unit.told(1, 6), 15);
        check.same("a key seals itself", unit.seal(9, 9, 9), true);
        check.same("its type", unit.told(9, 6), 3);
        unit.put(5, 1, 32768);
        unit.seal(5, 5, 9);
        check.same("the free bit is kept", unit.told(5, 2), Check.told(Check.meta(0, 3, 17154 + 32768)));
    }

    private void typeMod16() {
        check.sentence("mod 16");
        CapUnit unit = unit();
        unit.root(8, 0, Check.SPACE, SEAL);
        int[] addresses = {11, 12, 15, 16, 17, 31, 32, -1, -16, Integer.MIN_VALUE + 7};
        int[] types = {11, 12, 15, 0, 1, 15, 0, 15, 0, 7};
        for (int i = 0; i < types.length; i++) {
            unit.move(8, 8, addresses[i]);
            unit.seal(2, 1, 8);
            check.same("type of " + addresses[i], unit.told(2, 6), types[i]);
            check.same("perms of " + addresses[i], unit.told(2, 5), 5);
            check.same("length of " + addresses[i], unit.told(2, 4), 60);
        }
    }

    private void targetWithoutTag() {
        check.sentence("no TAG unless c .. have one");
        CapUnit unit = unit();
        unit.move(9, 9, 6);
        check.same("NULL", unit.seal(2, 0, 9), false);
        check.register("NULL sealed", unit, 2, 0, 0, Check.told(Check.meta(0, 6, 17154)));
        unit.put(3, 1000, (int) unit.told(1, 2));
        check.same("one put", unit.seal(2, 3, 9), false);
    }

    private void keyWithoutTag() {
        check.sentence("no TAG unless .. k have one");
        CapUnit unit = unit();
        unit.put(6, 5, Check.told(Check.meta(SEAL, 15, 17154)));
        check.same("key without tag", unit.seal(2, 1, 6), false);
        check.same("type nevertheless", unit.told(2, 6), 5);
        check.same("NULL as a key", unit.seal(2, 1, 0), false);
        check.same("type 0", unit.told(2, 6), 0);
    }

    private void targetNotOpen() {
        check.sentence("and are open (c)");
        CapUnit unit = unit();
        unit.move(9, 9, 6);
        check.same("seal", unit.seal(2, 1, 9), true);
        check.same("sealed with the same", unit.seal(3, 2, 9), false);
        unit.move(9, 9, 7);
        check.same("sealed with another", unit.seal(3, 2, 9), false);
        check.same("its type", unit.told(3, 6), 7);
        unit.root(4, 50, 2, 2);
        check.same("gate", unit.gate(4, 4), true);
        check.same("a gate", unit.seal(4, 4, 9), false);
    }

    private void keyNotOpen() {
        check.sentence("and are open (k)");
        CapUnit unit = unit();
        unit.root(5, 2, 2, 4095);
        check.same("open", unit.seal(2, 1, 5), true);
        check.same("gate", unit.gate(4, 5), true);
        check.same("key that is a gate", unit.seal(2, 1, 4), false);
        check.same("seal", unit.seal(4, 5, 5), true);
        check.same("key that is sealed", unit.seal(2, 1, 4), false);
    }

    private void keyWithoutSeal() {
        check.sentence("k has SEAL");
        CapUnit unit = unit();
        unit.root(8, 0, 60, 4095 - SEAL);
        check.same("all but SEAL", unit.seal(2, 1, 8), false);
        check.same("type nevertheless", unit.told(2, 6), 0);
        check.same("only SEAL", unit.seal(2, 1, 9), true);
    }

    private void addressInBounds() {
        check.sentence("its ADDRESS (a byte) in its BOUNDS");
        CapUnit unit = unit();
        unit.root(7, 4, 2, SEAL);
        boolean[] in = {false, true, true, false};
        for (int i = 0; i < 4; i++) {
            check.same("move", unit.move(7, 7, 3 + i), true);
            check.same("key of bytes 4 and 5 at " + (3 + i), unit.seal(2, 1, 7), in[i]);
        }
        unit.root(6, 4, 0, SEAL);
        check.same("key of no byte", unit.seal(2, 1, 6), false);
        unit.root(6, 4, 1, SEAL);
        check.same("key of a byte", unit.seal(2, 1, 6), true);
    }

    private void below12() {
        check.sentence("and that is below 12");
        CapUnit unit = unit();
        for (int address = 0; address < 32; address++) {
            check.same("move to " + address, unit.move(9, 9, address), true);
            check.same("seal at " + address, unit.seal(2, 1, 9), address < 12);
        }
    }

    private void withoutSign() {
        check.sentence("(without sign)");
        CapUnit unit = unit();
        unit.root(8, 0, Check.SPACE, SEAL);
        int[] addresses = {-1, -5, Integer.MIN_VALUE, Integer.MIN_VALUE + 3};
        for (int address : addresses) {
            check.same("move to " + address, unit.move(8, 8, address), true);
            check.same("seal at " + address, unit.seal(2, 1, 8), false);
        }
    }

    private void registers() {
        check.sentence("Likewise (k too)");
        CapUnit unit = unit();
        for (int r : Check.noRegisters()) {
            check.noRegister("seal(" + r + ", 1, 9)", () -> unit.seal(r, 1, 9));
            check.noRegister("seal(1, " + r + ", 9)", () -> unit.seal(1, r, 9));
            check.noRegister("seal(1, 1, " + r + ")", () -> unit.seal(1, 1, r));
        }
        unit.move(31, 9, 1);
        check.same("seal(2, 1, 31)", unit.seal(2, 1, 31), true);
        check.same("seal(31, 31, 9)", unit.seal(31, 31, 9), true);
        check.same("seal(0, 1, 9)", unit.seal(0, 1, 9), false);
    }
}
