/** Terms, 1: what a capability has. */
public final class CapabilityTermsTest {
    private static final int GLOBAL = 0;
    private static final int RUN = 1;
    private static final int SEAL = 7;
    private static final int UNSEAL = 9;

    private final Check check = new Check();

    public static void main(String[] args) {
        CapabilityTermsTest test = new CapabilityTermsTest();
        test.permsInMeta();
        test.typeInMeta();
        test.freeBitInMeta();
        test.ieInMeta();
        test.tInMeta();
        test.bInMeta();
        test.globalIsBit0();
        test.runIsBit1();
        test.sealIsBit7();
        test.unsealIsBit9();
        test.openIs15();
        test.gateIs14();
        test.othersAreSealed();
        test.noneIsNull();
        test.metaIsTurned();
        test.check.end();
    }

    /** META with one bit, at an address where bounds without length stand. */
    private void oneBit(int bit, long base, long length, int perms, int type) {
        CapUnit unit = new CapUnit();
        unit.put(1, 4096, Check.told(1 << bit));
        check.register("bit " + bit, unit, 1, 0, 4096, Check.told(1 << bit), base, length, perms, type, 4096 - base);
    }

    private void permsInMeta() {
        check.sentence("20 to 31 PERMS");
        for (int bit = 20; bit < 32; bit++) {
            oneBit(bit, 4096, 0, 1 << (bit - 20), 0);
        }
    }

    private void typeInMeta() {
        check.sentence("16 to 19 TYPE");
        for (int bit = 16; bit < 20; bit++) {
            oneBit(bit, 4096, 0, 0, 1 << (bit - 16));
        }
    }

    private void freeBitInMeta() {
        check.sentence("15 (of META, which is nothing's)");
        oneBit(15, 4096, 0, 0, 0);
    }

    private void ieInMeta() {
        check.sentence("14 IE");
        oneBit(14, 4096, 64, 0, 0);
    }

    private void tInMeta() {
        check.sentence("8 to 13 T");
        for (int bit = 8; bit < 14; bit++) {
            oneBit(bit, 4096, 1 << (bit - 8), 0, 0);
        }
    }

    private void bInMeta() {
        check.sentence("0 to 7 B");
        // T is 0: below what B has in its lowest six bits, it is 64.
        for (int bit = 0; bit < 6; bit++) {
            oneBit(bit, 4096 + (1 << bit), 64 - (1 << bit), 0, 0);
        }
        // R is 1 and 3: address 4096, whose m is 0, is taken to lie behind the bounds.
        oneBit(6, 4096 - 256 + 64, 0, 0, 0);
        oneBit(7, 4096 - 256 + 128, 0, 0, 0);
    }

    private void globalIsBit0() {
        check.sentence("0 GLOBAL");
        CapUnit unit = new CapUnit();
        unit.root(1, 3, 1, 1 << SEAL);
        unit.root(2, 3, 1, 1 << UNSEAL);
        unit.root(3, 100, 9, 4095);
        unit.seal(4, 3, 1);
        unit.unseal(5, 4, 2);
        check.same("perms without GLOBAL", unit.told(5, 5), 4094);
        unit.root(6, 3, 1, 1 << UNSEAL | 1 << GLOBAL);
        unit.unseal(5, 4, 6);
        check.same("perms with GLOBAL", unit.told(5, 5), 4095);
    }

    private void runIsBit1() {
        check.sentence("1 RUN");
        for (int bit = 0; bit < 12; bit++) {
            CapUnit unit = new CapUnit();
            unit.root(1, 100, 9, 1 << bit);
            check.same("gate with only perm " + bit, unit.gate(2, 1), bit == RUN);
        }
    }

    private void sealIsBit7() {
        check.sentence("7 SEAL");
        for (int bit = 0; bit < 12; bit++) {
            CapUnit unit = new CapUnit();
            unit.root(1, 3, 1, 1 << bit);
            check.same("seal with only perm " + bit, unit.seal(2, 1, 1), bit == SEAL);
        }
    }

    private void unsealIsBit9() {
        check.sentence("9 UNSEAL");
        for (int bit = 0; bit < 12; bit++) {
            CapUnit unit = new CapUnit();
            unit.root(1, 3, 1, 1 << SEAL);
            unit.seal(2, 1, 1);
            unit.root(3, 3, 1, 1 << bit);
            check.same("unseal with only perm " + bit, unit.unseal(4, 2, 3), bit == UNSEAL);
        }
    }

    private void openIs15() {
        check.sentence("TYPE is 15 of one that is open");
        CapUnit unit = new CapUnit();
        unit.root(1, 100, 9, 4095);
        check.same("type of a root", unit.told(1, 6), 15);
        check.same("type of NULL", unit.told(0, 6), 15);
        check.same("an open one is moved", unit.move(2, 1, 101), true);
    }

    private void gateIs14() {
        check.sentence("14 of a gate");
        CapUnit unit = new CapUnit();
        unit.root(1, 100, 9, 4095);
        check.same("gate", unit.gate(2, 1), true);
        check.same("type of a gate", unit.told(2, 6), 14);
        check.same("a gate is not open", unit.move(3, 2, 100), false);
    }

    private void othersAreSealed() {
        check.sentence("others are sealed");
        CapUnit unit = new CapUnit();
        unit.root(1, 100, 9, 4095);
        unit.root(2, 0, 20, 4095);
        for (int type = 0; type < 12; type++) {
            unit.move(3, 2, type);
            check.same("seal with " + type, unit.seal(4, 1, 3), true);
            check.same("type " + type + " moved", unit.move(5, 4, 100), false);
            check.same("type " + type + " narrowed", unit.narrow(5, 4, 1, false), false);
            check.same("type " + type + " kept", unit.keep(5, 4, 4095), false);
            check.same("type " + type + " sealed", unit.seal(5, 4, 3), false);
            check.same("type " + type + " as a gate", unit.gate(5, 4), false);
            check.same("type " + type + " builds", unit.build(5, 4, 1), false);
        }
    }

    private void noneIsNull() {
        check.sentence("NULL has no TAG, ADDRESS 0, META 1000194 (open, no PERMS)");
        CapUnit unit = new CapUnit();
        check.same("tag", unit.told(0, 0), 0);
        check.same("address", unit.told(0, 1), 0);
        check.same("perms", unit.told(0, 5), 0);
        check.same("type", unit.told(0, 6), 15);
        check.same("base", unit.told(0, 3), unit.bound(1000194, 0, false));
        check.same("length", unit.told(0, 4), unit.bound(1000194, 0, true));
    }

    private void metaIsTurned() {
        check.sentence("META is stored and told with its bits turned where those of NULL are 1");
        CapUnit unit = new CapUnit();
        check.same("NULL's", unit.told(0, 2), 0);
        unit.root(1, 1000, 60, 5);
        // 5 perms, TYPE 15, T 36, B 232 is 0x005F24E8; NULL's is 0x000F4302.
        check.same("a root's", unit.told(1, 2), 0x005067EA);
        for (int bit = 0; bit < 32; bit++) {
            unit.put(2, 0, 1 << bit);
            check.same("bit " + bit + " comes back", unit.told(2, 2), 1 << bit);
        }
        unit.put(2, 0, 0);
        check.same("0 has NULL's type", unit.told(2, 6), 15);
        check.same("0 has NULL's bounds", unit.told(2, 4), Check.SPACE);
        unit.put(2, 0, 1000194);
        check.same("NULL's own has type 0", unit.told(2, 6), 0);
        check.same("NULL's own has no length", unit.told(2, 4), 0);
    }
}
