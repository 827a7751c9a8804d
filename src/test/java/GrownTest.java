import java.util.Random;

/** Promise 17, and what it rests on: whatever is done, no tag stands outside the roots. */
public final class GrownTest {
    private final Check check = new Check();
    private final Random random = new Random(170);
    private CapUnit unit;
    private final Model[] roots = new Model[8];
    private int count;

    public static void main(String[] args) {
        GrownTest test = new GrownTest();
        test.check.same("new", new CapUnit().grown(), 0);
        for (int i = 0; i < 3000; i++) {
            test.run();
        }
        for (int bounds = 0; bounds < 32768; bounds++) {
            test.narrowed(bounds);
        }
        test.check.end();
    }

    private void run() {
        unit = new CapUnit();
        count = 0;
        // 4 registers of 3 things, and the steps, stay below 512 calls.
        for (int step = 0; step < 22; step++) {
            for (int i = 0; i < 6; i++) {
                act();
            }
            check.same("grown()", unit.grown(), 0);
            for (int r = 1; r < 5; r++) {
                look(r);
            }
        }
    }

    /** Whatever bounds are built, rounding never takes what is narrowed out of them. */
    private void narrowed(int bounds) {
        unit = new CapUnit();
        unit.root(1, 0, Check.SPACE, 0);
        for (int i = 0; i < 6; i++) {
            unit.put(2, Runs.address(random), Check.told(Check.meta(0, 15, bounds)));
            if (unit.build(2, 1, 2)) {
                narrowSome();
            }
        }
        check.same("grown() with bounds " + bounds, unit.grown(), 0);
    }

    private void narrowSome() {
        long base = unit.told(2, 3);
        long length = unit.told(2, 4);
        for (int i = 0; i < 8; i++) {
            long skipped = Runs.length(random, length);
            unit.move(3, 2, (int) (base + skipped));
            if (unit.narrow(4, 3, (int) Runs.length(random, length - skipped), false)) {
                check.same("narrowed is in what was built", unit.subset(2, 4), true);
            }
        }
    }

    private void act() {
        int d = random.nextInt(5);
        int c = random.nextInt(5);
        int k = random.nextInt(5);
        switch (random.nextInt(9)) {
            case 0: makeRoot(); break;
            case 1: unit.put(d, Runs.address(random), random.nextInt()); break;
            case 2: unit.narrow(d, c, (int) Runs.length(random, 1L << 32), random.nextInt(4) == 0); break;
            case 3: unit.move(d, c, Runs.address(random)); break;
            case 4: unit.keep(d, c, random.nextInt()); break;
            case 5: unit.seal(d, c, k); break;
            case 6: unit.unseal(d, c, k); break;
            case 7: unit.gate(d, c); break;
            default: unit.build(d, c, k);
        }
    }

    private void makeRoot() {
        if (count == 8) {
            return;
        }
        int base = random.nextBoolean() ? 0 : Runs.address(random);
        long from = Integer.toUnsignedLong(base);
        long length = Runs.length(random, Check.SPACE - from);
        int perms = random.nextInt(4096);
        unit.root(1 + random.nextInt(4), base, length, perms);
        roots[count] = Model.root(from, length, perms);
        count++;
    }

    private void look(int r) {
        if (unit.told(r, 0) == 0) {
            return;
        }
        Model held = new Model(true, unit.told(r, 1), unit.told(r, 2) ^ Check.NULL_META);
        boolean in = false;
        for (int i = 0; i < count; i++) {
            in |= roots[i].holds(held);
        }
        check.same("register " + r + " is in a root", in, true);
    }
}
