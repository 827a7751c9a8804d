/** Promise 8. */
public final class UnsealTest {
    private static final int GLOBAL = 1;
    private static final int UNSEAL = 512;

    private final Check check = new Check();

    public static void main(String[] args) {
        UnsealTest test = new UnsealTest();
        test.becomesOpen();
        test.openWithoutTag();
        test.withoutGlobal();
        test.withoutGlobalNorTag();
        test.targetWithoutTag();
        test.keyWithoutTag();
        test.typeBelow12();
        test.typeIsTheAddress();
        test.keyNotOpen();
        test.keyWithoutUnseal();
        test.addressInBounds();
        test.registers();
        test.check.end();
    }

    /** 1 is open, 2 is that sealed with type 5, 8 has all perms at 5, 9 only UNSEAL. */
    private static CapUnit unit() {
        CapUnit unit = new CapUnit();
        unit.root(1, 1000, 60, 7);
        unit.root(8, 0, 60, 4095);
        unit.move(8, 8, 5);
        unit.seal(2, 1, 8);
        unit.keep(9, 8, UNSEAL);
        return unit;
    }

    private void becomesOpen() {
        check.sentence("REGISTER d becomes c, open");
        CapUnit unit = unit();
        int open = Check.told(Check.meta(7, 15, Check.plain(36, 232)));
        check.same("unseal(3, 2, 8)", unit.unseal(3, 2, 8), true);
        check.register("opened", unit, 3, 1, 1000, open, 1000, 60, 7, 15, 0);
        check.same("the source stays sealed", unit.told(2, 6), 5);
        check.same("in place", unit.unseal(2, 2, 8), true);
        check.register("in place", unit, 2, 1, 1000, open, 1000, 60, 7, 15, 0);
    }

    private void openWithoutTag() {
        check.sentence("open (though it gets no TAG)");
        CapUnit unit = unit();
        check.same("by NULL", unit.unseal(3, 2, 0), false);
        check.same("type", unit.told(3, 6), 15);
        check.same("gate", unit.gate(4, 1), true);
        check.same("a gate", unit.unseal(3, 4, 8), false);
        check.same("type", unit.told(3, 6), 15);
        unit.put(4, 1, Check.told(Check.meta(1, 13, 32768)));
        check.same("type 13", unit.unseal(3, 4, 8), false);
        check.same("all of it", unit.told(3, 2), Check.told(Check.meta(1, 15, 32768)));
    }

    private void withoutGlobal() {
        check.sentence("without GLOBAL if k has not that");
        CapUnit unit = unit();
        check.same("by a key that is not", unit.unseal(3, 2, 9), true);
        check.register("not global", unit, 3, 1, 1000,
                Check.told(Check.meta(6, 15, Check.plain(36, 232))), 1000, 60, 6, 15, 0);
        unit.keep(4, 1, 6);
        unit.seal(4, 4, 8);
        check.same("one that is not, by a key that is", unit.unseal(5, 4, 8), true);
        check.same("is not made global", unit.told(5, 5), 6);
        check.same("one that is not, by a key that is not", unit.unseal(5, 4, 9), true);
        check.same("stays so", unit.told(5, 5), 6);
    }

    private void withoutGlobalNorTag() {
        check.sentence("without GLOBAL if k has not that (though it gets no TAG)");
        CapUnit unit = unit();
        unit.put(7, 5, Check.told(Check.meta(4095 - GLOBAL, 15, 17154)));
        check.same("key without tag", unit.unseal(3, 2, 7), false);
        check.register("not global", unit, 3, 0, 1000, Check.told(Check.meta(6, 15, Check.plain(36, 232))));
        unit.put(7, 5, Check.told(Check.meta(GLOBAL, 15, 17154)));
        check.same("global key without tag", unit.unseal(3, 2, 7), false);
        check.register("global", unit, 3, 0, 1000, Check.told(Check.meta(7, 15, Check.plain(36, 232))));
    }

    private void targetWithoutTag() {
        check.sentence("no TAG unless c .. have one");
        CapUnit unit = unit();
        unit.put(3, 1000, (int) unit.told(2, 2));
        check.same("without tag", unit.unseal(3, 3, 8), false);
        check.register("without tag", unit, 3, 0, 1000, Check.told(Check.meta(7, 15, Check.plain(36, 232))));
    }

    private void keyWithoutTag() {
        check.sentence("no TAG unless .. k have one");
        CapUnit unit = unit();
        unit.put(7, 5, (int) unit.told(8, 2));
        check.same("key without tag", unit.unseal(3, 2, 7), false);
        unit.move(7, 8, 5);
        check.same("the same with a tag", unit.unseal(3, 2, 7), true);
    }

    private void typeBelow12() {
        check.sentence("c's TYPE is below 12");
        CapUnit unit = unit();
        unit.root(10, 0, 60, 4095);
        for (int type = 0; type < 12; type++) {
            unit.move(10, 10, type);
            check.same("seal by " + type, unit.seal(5, 1, 10), true);
            check.same("unseal by " + type, unit.unseal(5, 5, 10), true);
        }
        check.same("gate", unit.gate(4, 1), true);
        check.same("move", unit.move(10, 10, 14), true);
        check.same("a gate by 14", unit.unseal(3, 4, 10), false);
        check.same("move", unit.move(10, 10, 15), true);
        check.same("an open one by 15", unit.unseal(3, 1, 10), false);
    }

    private void typeIsTheAddress() {
        check.sentence("c's TYPE is .. k's ADDRESS");
        CapUnit unit = unit();
        unit.root(7, 0, Check.SPACE, 4095);
        int[] others = {4, 6, 0, 15, 21, 5 - 16, 5 + Integer.MIN_VALUE, 1000};
        for (int address : others) {
            check.same("move", unit.move(7, 7, address), true);
            check.same("type 5 by " + address, unit.unseal(3, 2, 7), false);
        }
        check.same("move", unit.move(7, 7, 5), true);
        check.same("type 5 by 5", unit.unseal(3, 2, 7), true);
    }

    private void keyNotOpen() {
        check.sentence("k is open");
        CapUnit unit = unit();
        check.same("gate", unit.gate(7, 8), true);
        check.same("key that is a gate", unit.unseal(3, 2, 7), false);
        check.same("seal", unit.seal(7, 8, 8), true);
        check.same("key that is sealed", unit.unseal(3, 2, 7), false);
    }

    private void keyWithoutUnseal() {
        check.sentence("has UNSEAL");
        CapUnit unit = unit();
        unit.keep(7, 8, 4095 - UNSEAL);
        check.same("all but UNSEAL", unit.unseal(3, 2, 7), false);
        check.same("only UNSEAL", unit.unseal(3, 2, 9), true);
    }

    private void addressInBounds() {
        check.sentence("and that in its BOUNDS");
        CapUnit unit = unit();
        unit.root(6, 4, 1, 4095);
        check.same("move", unit.move(6, 6, 5), true);
        check.same("a byte above the key's bounds", unit.unseal(3, 2, 6), false);
        unit.root(6, 6, 1, 4095);
        check.same("move", unit.move(6, 6, 5), true);
        check.same("a byte below the key's bounds", unit.unseal(3, 2, 6), false);
        unit.root(6, 5, 0, 4095);
        check.same("key of no byte", unit.unseal(3, 2, 6), false);
        unit.root(6, 5, 1, 4095);
        check.same("key of that byte", unit.unseal(3, 2, 6), true);
    }

    private void registers() {
        check.sentence("Likewise (IndexOutOfBoundsException if c, d or k is not 0 to 31)");
        CapUnit unit = unit();
        for (int r : Check.noRegisters()) {
            check.noRegister("unseal(" + r + ", 2, 8)", () -> unit.unseal(r, 2, 8));
            check.noRegister("unseal(2, " + r + ", 8)", () -> unit.unseal(2, r, 8));
            check.noRegister("unseal(2, 2, " + r + ")", () -> unit.unseal(2, 2, r));
        }
        check.same("unseal(31, 2, 8)", unit.unseal(31, 2, 8), true);
        unit.move(31, 8, 5);
        check.same("unseal(3, 2, 31)", unit.unseal(3, 2, 31), true);
        check.same("unseal(0, 2, 8)", unit.unseal(0, 2, 8), false);
    }
}
