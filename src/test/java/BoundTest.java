import java.util.Random;

/** Promise 15. */
public final class BoundTest {
    public static void main(String[] args) {
        Check check = new Check();
        byHand(check);
        everyMeta(check);
        packedOnesComeBack(check);
        check.end();
    }

    private static void byHand(Check check) {
        CapUnit unit = new CapUnit();
        both(check, unit, 17154, 5, 0, Check.SPACE);
        both(check, unit, 36 * 256 + 232, 1000, 1000, 1060);
        both(check, unit, 36 * 256 + 232, 959, 744, 804);
        both(check, unit, 36 * 256 + 232, 1216, 1256, 1316);
        both(check, unit, 1017, -1, Check.SPACE - 7, Check.SPACE + 3);
        // The same round address 0: TOP is not turned, as it stands 2^32 above in both.
        both(check, unit, 1017, 0, Check.SPACE - 7, Check.SPACE + 3);
        // IE with E 63 counts as 26.
        both(check, unit, 16384 + 7 * 256 + 7, 123, 0, Check.SPACE);
        // E 24, B 192, T 0, from the last quarter and from 0.
        both(check, unit, 16384 + 3 * 256 + 192, 0xC0000000, 0xC0000000L, Check.SPACE);
        both(check, unit, 16384 + 3 * 256 + 192, 0, 0xC0000000L, Check.SPACE);
        // E 25 is not below 25: TOP stays cut to 0.
        both(check, unit, 16384 + 3 * 256 + 184 + 1, 0, 56L << 25, 0);
        // What stands above the fifteen bits is not looked at.
        both(check, unit, 0xFFFF8000 + 36 * 256 + 232, 1000, 1000, 1060);
    }

    private static void both(Check check, CapUnit unit, int meta, int address, long base, long top) {
        check.same("bound(" + meta + ", " + address + ", false)", unit.bound(meta, address, false), base);
        check.same("bound(" + meta + ", " + address + ", true)", unit.bound(meta, address, true), top);
    }

    private static void everyMeta(Check check) {
        Random random = new Random(15);
        for (int meta = 0; meta < 32768; meta++) {
            CapUnit unit = new CapUnit();
            for (int i = 0; i < 20; i++) {
                int address = Runs.address(random);
                long[] due = Model.bounds(meta, Integer.toUnsignedLong(address));
                both(check, unit, meta | random.nextInt() << 15, address, due[0], due[1]);
            }
        }
    }

    private static void packedOnesComeBack(Check check) {
        Random random = new Random(16);
        for (int i = 0; i < 100_000; i++) {
            CapUnit unit = new CapUnit();
            int base = Runs.address(random);
            long from = Integer.toUnsignedLong(base);
            long to = from + Runs.length(random, Check.SPACE - from);
            long[] due = Model.packed(from, to);
            both(check, unit, unit.pack(base, to - from), base, due[2], due[3]);
        }
    }
}
