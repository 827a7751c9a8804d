import java.util.Random;

/** Promise 15; the terms of bounds have their own test. */
public final class BoundTest {
    private final Check check = new Check();

    public static void main(String[] args) {
        BoundTest test = new BoundTest();
        test.baseOrTop();
        test.lowestBits();
        test.addressWithoutSign();
        test.everyMeta();
        test.packedOnesComeBack();
        test.check.end();
    }

    private void baseOrTop() {
        check.sentence("BASE, or (top) TOP");
        CapUnit unit = new CapUnit();
        check.bounds(unit, Check.plain(36, 232), 1000, 1000, 1060);
        check.bounds(unit, Check.plain(36, 232), 959, 744, 804);
        check.bounds(unit, Check.plain(36, 232), 1216, 1256, 1316);
        check.bounds(unit, 0, 0, 0, 0);
        check.bounds(unit, 17154, 5, 0, Check.SPACE);
    }

    private void lowestBits() {
        check.sentence("of the lowest 15 bits of META");
        CapUnit unit = new CapUnit();
        for (int bit = 15; bit < 32; bit++) {
            check.bounds(unit, 1 << bit | Check.plain(36, 232), 1000, 1000, 1060);
            check.bounds(unit, 1 << bit | Check.scaled(26, 0, 0), 1000, 0, Check.SPACE);
        }
        check.bounds(unit, 0xFFFF8000 + Check.plain(36, 232), 1000, 1000, 1060);
        // E 63 counts as 26, B is 248, T 56.
        check.bounds(unit, -1, 0, 56L << 26, 56L << 26);
    }

    private void addressWithoutSign() {
        check.sentence("and an ADDRESS (of 32 bits)");
        CapUnit unit = new CapUnit();
        check.bounds(unit, Check.plain(8, 0), Integer.MIN_VALUE, Check.SPACE / 2, Check.SPACE / 2 + 8);
        check.bounds(unit, Check.plain(63, 255), -1, Check.SPACE - 1, Check.SPACE - 1);
        check.bounds(unit, Check.scaled(24, 0, 192), -1, 192L << 24, Check.SPACE);
    }

    private void everyMeta() {
        check.sentence("BASE, or (top) TOP, as the model has it, of every META");
        Random random = new Random(15);
        for (int meta = 0; meta < 32768; meta++) {
            CapUnit unit = new CapUnit();
            for (int i = 0; i < 20; i++) {
                int address = Runs.address(random);
                long[] due = Model.bounds(meta, Integer.toUnsignedLong(address));
                check.bounds(unit, meta | random.nextInt() << 15, address, due[0], due[1]);
            }
        }
    }

    private void packedOnesComeBack() {
        check.sentence("BASE, or (top) TOP, of what was packed");
        Random random = new Random(16);
        for (int i = 0; i < 100_000; i++) {
            CapUnit unit = new CapUnit();
            int base = Runs.address(random);
            long from = Integer.toUnsignedLong(base);
            long to = from + Runs.length(random, Check.SPACE - from);
            long[] due = Model.packed(from, to);
            check.bounds(unit, unit.pack(base, to - from), base, due[2], due[3]);
        }
    }
}
