import java.util.Random;

/** Promise 14. */
public final class PackTest {
    public static void main(String[] args) {
        Check check = new Check();
        CapUnit unit = new CapUnit();
        check.same("pack(0, 0)", unit.pack(0, 0), 32768);
        check.same("pack(1000, 60)", unit.pack(1000, 60), 32768 + 36 * 256 + 232);
        check.same("pack(1001, 63)", unit.pack(1001, 63), 32768 + 40 * 256 + 233);
        check.same("pack(1000, 64)", unit.pack(1000, 64), 32768 + 16384 + 40 * 256 + 232);
        check.same("pack(1001, 64)", unit.pack(1001, 64), 16384 + 48 * 256 + 232);
        check.same("pack(0, 127)", unit.pack(0, 127), 16384 + 1);
        check.same("pack(0, 128)", unit.pack(0, 128), 32768 + 16384 + 1);
        check.same("pack(0, 120)", unit.pack(0, 120), 32768 + 16384 + 56 * 256);
        check.same("pack(0, 2^32)", unit.pack(0, Check.SPACE), 32768 + 17154);
        check.same("pack(-1, 0)", unit.pack(-1, 0), 32768 + 63 * 256 + 255);
        check.same("pack(MIN, 2^31)", unit.pack(Integer.MIN_VALUE, Check.SPACE / 2), 32768 + 16384 + 3 * 256 + 64 + 1);
        likeTheModel(check);
        wrongInputs(check, unit);
        check.end();
    }

    private static void likeTheModel(Check check) {
        Random random = new Random(14);
        CapUnit unit = null;
        for (int i = 0; i < 500_000; i++) {
            if (i % 512 == 0) {
                unit = new CapUnit();
            }
            int base = Runs.address(random);
            long from = Integer.toUnsignedLong(base);
            long length = Runs.length(random, Check.SPACE - from);
            long[] due = Model.packed(from, from + length);
            check.same("pack(" + base + ", " + length + ")", unit.pack(base, length), due[0] + 32768 * due[1]);
        }
    }

    private static void wrongInputs(Check check, CapUnit unit) {
        check.noArgument("pack(0, -1)", () -> unit.pack(0, -1));
        check.noArgument("pack(-1, -1)", () -> unit.pack(-1, -1));
        check.noArgument("pack(0, MIN)", () -> unit.pack(0, Long.MIN_VALUE));
        check.noArgument("pack(0, 2^32 + 1)", () -> unit.pack(0, Check.SPACE + 1));
        check.noArgument("pack(1, 2^32)", () -> unit.pack(1, Check.SPACE));
        check.noArgument("pack(-1, 2)", () -> unit.pack(-1, 2));
        check.noArgument("pack(-1, MAX)", () -> unit.pack(-1, Long.MAX_VALUE));
    }
}
