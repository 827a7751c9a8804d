import java.util.Random;

/** Promise 14. */
public final class PackTest {
    private static final long SPACE = Check.SPACE;

    private final Check check = new Check();

    public static void main(String[] args) {
        PackTest test = new PackTest();
        test.lowestBits();
        test.notTurned();
        test.exact();
        test.likeTheModel();
        test.lengthBelow0();
        test.beyondTheSpace();
        test.check.end();
    }

    private void lowestBits() {
        check.sentence("The lowest 15 bits of META for base and length PACKED");
        CapUnit unit = new CapUnit();
        check.same("pack(0, 0)", unit.pack(0, 0) % 32768, 0);
        check.same("pack(1000, 60)", unit.pack(1000, 60) % 32768, Check.plain(36, 232));
        check.same("pack(1001, 64)", unit.pack(1001, 64) % 32768, Check.scaled(0, 48, 232));
        check.same("pack(0, 127)", unit.pack(0, 127) % 32768, Check.scaled(1, 0, 0));
        check.same("pack(0, 2^32)", unit.pack(0, SPACE) % 32768, Check.scaled(26, 0, 0));
        check.same("pack(MIN, 2^31)", unit.pack(Integer.MIN_VALUE, SPACE / 2) % 32768, Check.scaled(25, 0, 64));
        check.same("nothing above", unit.pack(-1, 1) >> 16, 0);
    }

    private void notTurned() {
        check.sentence("(as it is, not turned; for bound, too)");
        CapUnit unit = new CapUnit();
        check.same("NULL's bounds", unit.pack(0, SPACE) % 32768, 1000194 % 32768);
        check.same("their top by bound", unit.bound(1000194, 0, true), SPACE);
        check.same("top of 0 by bound", unit.bound(0, 0, true), 0);
        unit.root(1, 1000, 60, 0);
        check.same("what is stored", Check.told((int) unit.told(1, 2)) % 32768, unit.pack(1000, 60) % 32768);
    }

    private void exact() {
        check.sentence("and 32768 if that is EXACT");
        CapUnit unit = new CapUnit();
        check.same("pack(0, 0)", unit.pack(0, 0), 32768);
        check.same("pack(1001, 63)", unit.pack(1001, 63), 32768 + Check.plain(40, 233));
        check.same("pack(1000, 64)", unit.pack(1000, 64), 32768 + Check.scaled(0, 40, 232));
        check.same("pack(1001, 64)", unit.pack(1001, 64), Check.scaled(0, 48, 232));
        check.same("pack(0, 127)", unit.pack(0, 127), Check.scaled(1, 0, 0));
        check.same("pack(0, 128)", unit.pack(0, 128), 32768 + Check.scaled(1, 0, 0));
        check.same("pack(0, 2^32)", unit.pack(0, SPACE), 32768 + 17154);
        check.same("pack(1, 2^32 - 1)", unit.pack(1, SPACE - 1), 17154);
    }

    private void likeTheModel() {
        check.sentence("PACKED, as the model has it");
        Random random = new Random(14);
        CapUnit unit = null;
        for (int i = 0; i < 500_000; i++) {
            if (i % 512 == 0) {
                unit = new CapUnit();
            }
            int base = Runs.address(random);
            long from = Integer.toUnsignedLong(base);
            long length = Runs.length(random, SPACE - from);
            long[] due = Model.packed(from, from + length);
            check.same("pack(" + base + ", " + length + ")", unit.pack(base, length), due[0] + 32768 * due[1]);
        }
    }

    private void lengthBelow0() {
        check.sentence("IllegalArgumentException if length is below 0");
        CapUnit unit = new CapUnit();
        int[] bases = {0, 1000, -1, Integer.MIN_VALUE};
        for (int base : bases) {
            check.noArgument("pack(" + base + ", -1)", () -> unit.pack(base, -1));
            check.noArgument("pack(" + base + ", MIN)", () -> unit.pack(base, Long.MIN_VALUE));
            check.same("pack(" + base + ", 0) is exact", unit.pack(base, 0) / 32768, 1);
        }
    }

    private void beyondTheSpace() {
        check.sentence("or base (without sign) and length beyond 2^32");
        CapUnit unit = new CapUnit();
        check.noArgument("pack(0, 2^32 + 1)", () -> unit.pack(0, SPACE + 1));
        check.noArgument("pack(1, 2^32)", () -> unit.pack(1, SPACE));
        check.noArgument("pack(-1, 2)", () -> unit.pack(-1, 2));
        check.noArgument("pack(MIN, 2^31 + 1)", () -> unit.pack(Integer.MIN_VALUE, SPACE / 2 + 1));
        check.noArgument("pack(0, MAX)", () -> unit.pack(0, Long.MAX_VALUE));
        check.noArgument("pack(-1, MAX)", () -> unit.pack(-1, Long.MAX_VALUE));
        check.same("pack(-1, 1)", unit.pack(-1, 1), 32768 + 255);
        check.same("pack(-64, 64)", unit.pack(-64, 64), 32768 + Check.scaled(0, 0, 192));
    }
}
