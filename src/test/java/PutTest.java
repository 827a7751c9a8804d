/** Promise 3. */
public final class PutTest {
    private final Check check = new Check();

    public static void main(String[] args) {
        PutTest test = new PutTest();
        test.address();
        test.metaAsTold();
        test.noTag();
        test.registers();
        test.check.end();
    }

    private void address() {
        check.sentence("REGISTER d becomes ADDRESS a");
        CapUnit unit = new CapUnit();
        int[] addresses = {0, 1, -1, Integer.MIN_VALUE, Integer.MAX_VALUE};
        for (int a : addresses) {
            unit.put(5, a, 0);
            check.register("at " + a, unit, 5, 0, a, 0, 0, Check.SPACE, 0, 15, Integer.toUnsignedLong(a));
        }
    }

    private void metaAsTold() {
        check.sentence("META m as it is told");
        CapUnit unit = new CapUnit();
        int sealed = Check.told(Check.meta(5, 3, Check.plain(36, 232)));
        unit.put(5, 1000, sealed);
        check.register("a sealed one", unit, 5, 0, 1000, sealed, 1000, 60, 5, 3, 0);
        unit.put(31, 0, -1);
        check.same("-1", unit.told(31, 2), -1);
        check.same("its perms", unit.told(31, 5), 4095);
        check.same("its type", unit.told(31, 6), 0);
        unit.put(31, 0, 32768);
        check.same("the free bit is kept", unit.told(31, 2), 32768);
        check.same("the free bit is none of the bounds", unit.told(31, 4), Check.SPACE);
    }

    private void noTag() {
        check.sentence("no TAG");
        CapUnit unit = new CapUnit();
        unit.root(5, 1000, 60, 5);
        unit.put(5, 1000, (int) unit.told(5, 2));
        check.same("where there was one", unit.told(5, 0), 0);
        check.same("and none comes back", unit.move(5, 5, 1000), false);
    }

    private void registers() {
        check.sentence("IndexOutOfBoundsException if d is not 0 to 31");
        CapUnit unit = new CapUnit();
        for (int d : Check.noRegisters()) {
            check.noRegister("put(" + d + ", ..)", () -> unit.put(d, 1, 1));
        }
        unit.put(0, 77, -1);
        check.isNull("put to 0", unit, 0);
        unit.put(31, 77, -1);
        check.same("put to 31", unit.told(31, 1), 77);
    }
}
