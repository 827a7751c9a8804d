import java.util.Random;

/** Promise 16. */
public final class RoundedTest {
    public static void main(String[] args) {
        Check check = new Check();
        byHand(check);
        likeTheModel(check);
        wrongInputs(check);
        check.end();
    }

    private static void byHand(Check check) {
        long[] lengths = {0, 1, 63, 64, 65, 120, 121, 127, 128, 1000, Check.SPACE - 1, Check.SPACE, 15L << 28, (15L << 28) + 1};
        long[] tops = {0, 1, 63, 64, 72, 120, 128, 128, 128, 1024, Check.SPACE, Check.SPACE, 15L << 28, Check.SPACE};
        long[] units = {1, 1, 1, 8, 8, 8, 16, 16, 16, 128, 1 << 29, 1 << 29, 1 << 28, 1 << 29};
        CapUnit unit = new CapUnit();
        for (int i = 0; i < lengths.length; i++) {
            both(check, unit, lengths[i], tops[i], units[i]);
        }
    }

    private static void both(Check check, CapUnit unit, long length, long top, long size) {
        check.same("rounded(" + length + ", false)", unit.rounded(length, false), top);
        check.same("rounded(" + length + ", true)", unit.rounded(length, true), size);
    }

    private static void likeTheModel(Check check) {
        Random random = new Random(17);
        for (int i = 0; i < 100_000; i++) {
            long length = i < 5000 ? i : Runs.length(random, Check.SPACE);
            long[] due = Model.packed(0, length);
            both(check, new CapUnit(), length, due[3], due[4]);
        }
    }

    private static void wrongInputs(Check check) {
        CapUnit unit = new CapUnit();
        long[] none = {-1, Check.SPACE + 1, Long.MIN_VALUE, Long.MAX_VALUE};
        for (long length : none) {
            check.noArgument("rounded(" + length + ", false)", () -> unit.rounded(length, false));
            check.noArgument("rounded(" + length + ", true)", () -> unit.rounded(length, true));
        }
    }
}
