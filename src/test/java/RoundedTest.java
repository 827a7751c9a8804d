import java.util.Random;

/** Promise 16. */
public final class RoundedTest {
    private static final long SPACE = Check.SPACE;
    private static final long[] LENGTHS =
            {0, 1, 63, 64, 65, 120, 121, 127, 128, 240, 241, 1000, SPACE / 2, 15L << 28, (15L << 28) + 1, SPACE - 1, SPACE};

    private final Check check = new Check();

    public static void main(String[] args) {
        RoundedTest test = new RoundedTest();
        test.tops();
        test.units();
        test.withoutIe();
        test.likeTheModel();
        test.wrongLengths();
        test.check.end();
    }

    private void tops() {
        check.sentence("TOP of 0 to length PACKED");
        long[] tops = {0, 1, 63, 64, 72, 120, 128, 128, 128, 240, 256, 1024, SPACE / 2, 15L << 28, SPACE, SPACE, SPACE};
        CapUnit unit = new CapUnit();
        for (int i = 0; i < LENGTHS.length; i++) {
            check.same("rounded(" + LENGTHS[i] + ", false)", unit.rounded(LENGTHS[i], false), tops[i]);
        }
    }

    private void units() {
        check.sentence("or (unit) 2^(e + 3) if that has IE");
        long[] units = {1, 1, 1, 8, 8, 8, 16, 16, 16, 16, 32, 128, 1 << 28, 1 << 28, 1 << 29, 1 << 29, 1 << 29};
        CapUnit unit = new CapUnit();
        for (int i = 0; i < LENGTHS.length; i++) {
            check.same("rounded(" + LENGTHS[i] + ", true)", unit.rounded(LENGTHS[i], true), units[i]);
        }
    }

    private void withoutIe() {
        check.sentence("else 1");
        CapUnit unit = new CapUnit();
        for (int length = 0; length < 64; length++) {
            check.same("rounded(" + length + ", true)", unit.rounded(length, true), 1);
            check.same("rounded(" + length + ", false)", unit.rounded(length, false), length);
        }
        check.same("rounded(64, true)", unit.rounded(64, true), 8);
    }

    private void likeTheModel() {
        check.sentence("TOP, or 2^(e + 3), as the model has it");
        Random random = new Random(17);
        for (int i = 0; i < 100_000; i++) {
            long length = i < 5000 ? i : Runs.length(random, SPACE);
            long[] due = Model.packed(0, length);
            CapUnit unit = new CapUnit();
            check.same("rounded(" + length + ", false)", unit.rounded(length, false), due[3]);
            check.same("rounded(" + length + ", true)", unit.rounded(length, true), due[4]);
        }
    }

    private void wrongLengths() {
        check.sentence("IllegalArgumentException if length is not 0 to 2^32");
        CapUnit unit = new CapUnit();
        long[] none = {-1, SPACE + 1, Long.MIN_VALUE, Long.MAX_VALUE};
        for (long length : none) {
            check.noArgument("rounded(" + length + ", false)", () -> unit.rounded(length, false));
            check.noArgument("rounded(" + length + ", true)", () -> unit.rounded(length, true));
        }
        check.same("rounded(0, false)", unit.rounded(0, false), 0);
        check.same("rounded(2^32, false)", unit.rounded(SPACE, false), SPACE);
    }
}
