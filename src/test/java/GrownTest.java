import java.util.Random;

/** Promise 17, and what it rests on: whatever is done, no tag stands outside the roots. */
public final class GrownTest {
    private final Check check = new Check();
    private final Random random = new Random(170);
    private CapUnit unit;
    private final Model[] roots = new Model[8];
    private int count;

    public static void main(String[] args) {
        GrownTest test = new GrownTest();
        test.withoutRoots();
        test.rootsThemselves();
        test.rootsThatAreOverwritten();
        test.withoutTag();
        test.attemptsOnBounds();
        test.attemptsOnPerms();
        test.roundedAtTheEdges();
        test.anyRun();
        test.anyBoundsNarrowed();
        test.check.end();
    }

    private void withoutRoots() {
        check.sentence("How many REGISTERS have a TAG and are not in the BOUNDS of one of the ROOTS (no ROOTS)");
        check.same("new", new CapUnit().grown(), 0);
    }

    private void rootsThemselves() {
        check.sentence("not in the BOUNDS of one of the ROOTS (the ROOTS themselves)");
        unit = new CapUnit();
        long[] lengths = {0, 1, 63, 64, 127, 1000, 1L << 31, Check.SPACE - 1};
        for (int i = 0; i < 8; i++) {
            unit.root(31 - i, i == 7 ? 1 : 1001 * i, lengths[i], 500 * i);
            check.same("root " + i, unit.grown(), 0);
        }
    }

    private void rootsThatAreOverwritten() {
        check.sentence("one of the ROOTS (though no REGISTER holds it any more)");
        unit = new CapUnit();
        for (int i = 0; i < 8; i++) {
            unit.root(1, 1000 * i, 60, 7);
            unit.narrow(2 + i, 1, 10, true);
        }
        unit.put(1, 0, 0);
        check.same("what came from them", unit.grown(), 0);
        check.same("the first has a tag", unit.told(2, 0), 1);
        check.same("the last has a tag", unit.told(9, 0), 1);
    }

    private void withoutTag() {
        check.sentence("How many REGISTERS have a TAG and (those without do not count)");
        unit = new CapUnit();
        unit.root(1, 1000, 60, 7);
        unit.put(2, 0, -1);
        unit.move(3, 1, -1);
        unit.narrow(4, 1, 61, false);
        unit.build(5, 1, 0);
        check.same("grown()", unit.grown(), 0);
    }

    /** 1 is 1000 to 1060 with perms 7, 2 a key at 3 with all perms; neither may give more. */
    private void given() {
        unit = new CapUnit();
        unit.root(1, 1000, 60, 7);
        unit.root(2, 3, 13, 4095);
    }

    private void refused(String call, boolean tag) {
        check.same(call, tag, false);
        check.same("grown() after " + call, unit.grown(), 0);
    }

    private void attemptsOnBounds() {
        check.sentence("always 0 (whatever BOUNDS are asked for)");
        given();
        refused("narrow, longer", unit.narrow(3, 1, 61, false));
        refused("narrow, nearly all", unit.narrow(3, 1, -1, false));
        refused("narrow what was refused", unit.narrow(3, 3, 1, false));
        unit.move(4, 1, 999);
        refused("narrow, earlier", unit.narrow(3, 4, 61, false));
        refused("move far off", unit.move(3, 1, 5000));
        refused("and back", unit.move(3, 3, 1000));
        unit.put(5, 1000, Check.told(Check.meta(7, 15, Check.plain(37, 232))));
        refused("build, longer", unit.build(3, 1, 5));
        unit.put(5, 1000, Check.told(Check.meta(7, 15, Check.plain(36, 231))));
        refused("build, earlier", unit.build(3, 1, 5));
        refused("build of all", unit.build(3, 1, 0));
        // BASE is above TOP: in other words it would hold all but a middle.
        unit.root(6, 0, Check.SPACE, 7);
        unit.put(5, 0, Check.told(Check.meta(7, 15, Check.scaled(25, 0, 184))));
        refused("build, base above top", unit.build(3, 6, 5));
    }

    private void attemptsOnPerms() {
        check.sentence("with PERMS among its: always 0");
        given();
        check.same("keep more", unit.keep(3, 1, -1), true);
        check.same("no more", unit.told(3, 5), 7);
        check.same("grown() after keep", unit.grown(), 0);
        unit.put(5, 1000, Check.told(Check.meta(15, 15, Check.plain(36, 232))));
        refused("build with more", unit.build(3, 1, 5));
        unit.keep(4, 1, 6);
        check.same("seal", unit.seal(4, 4, 2), true);
        check.same("grown() after seal", unit.grown(), 0);
        check.same("unseal by one that is global", unit.unseal(4, 4, 2), true);
        check.same("not global", unit.told(4, 5), 6);
        check.same("grown() after unseal", unit.grown(), 0);
        check.same("gate", unit.gate(3, 1), true);
        check.same("grown() after gate", unit.grown(), 0);
        // Bounds of one root with perms of the other are in neither.
        unit.put(5, 1000, Check.told(Check.meta(4095, 15, Check.plain(36, 232))));
        refused("build by one root", unit.build(3, 1, 5));
        refused("build by the other", unit.build(3, 2, 5));
    }

    private void roundedAtTheEdges() {
        check.sentence("always 0 (however BOUNDS are rounded)");
        for (int length = 64; length < 600; length++) {
            unit = new CapUnit();
            unit.root(1, 1001, length, 7);
            for (int skipped = 0; skipped < 40; skipped++) {
                unit.move(2, 1, 1001 + skipped);
                check.same("the rest", unit.narrow(3, 2, length - skipped, false), true);
                check.same("is in all", unit.subset(1, 3), true);
            }
            check.same("grown()", unit.grown(), 0);
        }
    }

    private void anyRun() {
        check.sentence("always 0 (after any run)");
        for (int i = 0; i < 3000; i++) {
            run();
        }
    }

    private void anyBoundsNarrowed() {
        check.sentence("always 0 (whatever BOUNDS were built and narrowed)");
        for (int bounds = 0; bounds < 32768; bounds++) {
            narrowed(bounds);
        }
    }

    private void run() {
        unit = new CapUnit();
        count = 0;
        // 4 registers of 3 things, and the steps, stay below 512 calls.
        for (int step = 0; step < 22; step++) {
            for (int i = 0; i < 6; i++) {
                act();
            }
            check.same("grown()", unit.grown(), 0);
            for (int r = 1; r < 5; r++) {
                look(r);
            }
        }
    }

    /** Whatever bounds are built, rounding never takes what is narrowed out of them. */
    private void narrowed(int bounds) {
        unit = new CapUnit();
        unit.root(1, 0, Check.SPACE, 0);
        for (int i = 0; i < 6; i++) {
            unit.put(2, Runs.address(random), Check.told(Check.meta(0, 15, bounds)));
            if (unit.build(2, 1, 2)) {
                narrowSome();
            }
        }
        check.same("grown() with bounds " + bounds, unit.grown(), 0);
    }

    private void narrowSome() {
        long base = unit.told(2, 3);
        long length = unit.told(2, 4);
        for (int i = 0; i < 8; i++) {
            long skipped = Runs.length(random, length);
            unit.move(3, 2, (int) (base + skipped));
            if (unit.narrow(4, 3, (int) Runs.length(random, length - skipped), false)) {
                check.same("narrowed is in what was built", unit.subset(2, 4), true);
            }
        }
    }

    private void act() {
        int d = random.nextInt(5);
        int c = random.nextInt(5);
        int k = random.nextInt(5);
        switch (random.nextInt(9)) {
            case 0: makeRoot(); break;
            case 1: unit.put(d, Runs.address(random), random.nextInt()); break;
            case 2: unit.narrow(d, c, (int) Runs.length(random, 1L << 32), random.nextInt(4) == 0); break;
            case 3: unit.move(d, c, Runs.address(random)); break;
            case 4: unit.keep(d, c, random.nextInt()); break;
            case 5: unit.seal(d, c, k); break;
            case 6: unit.unseal(d, c, k); break;
            case 7: unit.gate(d, c); break;
            default: unit.build(d, c, k);
        }
    }

    private void makeRoot() {
        if (count == 8) {
            return;
        }
        int base = random.nextBoolean() ? 0 : Runs.address(random);
        long from = Integer.toUnsignedLong(base);
        long length = Runs.length(random, Check.SPACE - from);
        int perms = random.nextInt(4096);
        unit.root(1 + random.nextInt(4), base, length, perms);
        roots[count] = Model.root(from, length, perms);
        count++;
    }

    private void look(int r) {
        if (unit.told(r, 0) == 0) {
            return;
        }
        Model held = new Model(true, unit.told(r, 1), unit.told(r, 2) ^ Check.NULL_META);
        boolean in = false;
        for (int i = 0; i < count; i++) {
            in |= roots[i].holds(held);
        }
        check.same("register " + r + " is in a root", in, true);
    }
}
