import java.util.Random;

/** Runs of all calls, each answer and the register it changed compared with the model's. */
public final class AllCallsTest {
    private static final int[] BELOW_TYPES = {0, 1, 3, 5, 11, 12, 14, 15};

    private final Check check = new Check();
    private final Random random = new Random(2026);
    private CapUnit unit;
    private final Model[] held = new Model[32];
    private int roots;
    private final int[] tagged = new int[11];

    public static void main(String[] args) {
        AllCallsTest test = new AllCallsTest();
        for (int i = 0; i < 4000; i++) {
            test.run();
        }
        for (int call = 0; call < 8; call++) {
            test.check.same("call " + call + " answered true often", test.tagged[call] > 300, true);
        }
        test.check.end();
    }

    private void run() {
        unit = new CapUnit();
        roots = 0;
        for (int r = 0; r < 32; r++) {
            held[r] = Model.none();
        }
        // Two roots and 50 acts with at most 10 calls each stay below 512 calls.
        becomesRoot(1, 0, Check.SPACE, 4095);
        becomesRoot(2, random.nextInt(8), 1 + random.nextInt(16), 4095 - random.nextInt(2));
        for (int i = 0; i < 50; i++) {
            int d = register();
            act(d);
            for (int what = 0; what < 8; what++) {
                check.same("told(" + d + ", " + what + ")", unit.told(d, what), held[d].told(what));
            }
        }
    }

    private int register() {
        return random.nextInt(20) == 0 ? 0 : random.nextInt(10) == 0 ? 31 : 1 + random.nextInt(6);
    }

    private void act(int d) {
        int c = random.nextBoolean() ? register() : taggedAt(register(), 0, Check.SPACE);
        int k = register();
        int kind = random.nextInt(11);
        switch (kind) {
            case 0: becomes(kind, d, unit.narrow(d, c, narrowLength(c), false), last); break;
            case 1: becomes(kind, d, unit.narrow(d, c, narrowLength(c), true), lastExactly); break;
            case 2: moves(d, c); break;
            case 3: keeps(d, c); break;
            case 4: seals(d, c, taggedAt(k, 0, 12)); break;
            case 5: unseals(d, likelySealed(c), k); break;
            case 6: becomes(kind, d, unit.gate(d, c), held[c].gate()); break;
            case 7: becomes(kind, d, unit.build(d, c, k), held[c].build(held[k])); break;
            case 8: puts(d, c); break;
            case 9: anyRoot(d); break;
            default: compares(c, k);
        }
    }

    private Model last;
    private Model lastExactly;

    /** A length for c, with what the model answers for it. */
    private int narrowLength(int c) {
        long room = Math.max(0, held[c].top() - held[c].address);
        int length = (int) Runs.length(random, Math.min(room + 2, Check.SPACE - 1));
        if (random.nextInt(3) == 0) {
            length &= -8 << random.nextInt(24);
        }
        last = held[c].narrow(Integer.toUnsignedLong(length), false);
        lastExactly = held[c].narrow(Integer.toUnsignedLong(length), true);
        return length;
    }

    private void moves(int d, int c) {
        int x;
        switch (random.nextInt(5)) {
            case 0: x = Runs.address(random); break;
            case 1: x = (int) held[c].base() + random.nextInt(300) - 100; break;
            case 2: x = (int) held[c].top() + random.nextInt(300) - 200; break;
            case 3: x = random.nextInt(18); break;
            default: x = BELOW_TYPES[random.nextInt(8)];
        }
        becomes(2, d, unit.move(d, c, x), held[c].move(x));
    }

    private void keeps(int d, int c) {
        int p = random.nextInt() | (random.nextBoolean() ? random.nextInt() | random.nextInt() : 0);
        becomes(3, d, unit.keep(d, c, p), held[c].keep(p));
    }

    private void seals(int d, int c, int k) {
        becomes(4, d, unit.seal(d, c, k), held[c].seal(held[k]));
    }

    private void unseals(int d, int c, int otherwise) {
        int k = taggedAt(otherwise, held[c].type(), held[c].type());
        becomes(5, d, unit.unseal(d, c, k), held[c].unseal(held[k]));
    }

    /** Mostly a register with a tag and such an address, if there is one. */
    private int taggedAt(int otherwise, long lowest, long highest) {
        for (int i = 0; i < 20; i++) {
            int r = register();
            if (held[r].tag && held[r].address >= lowest && held[r].address <= highest) {
                return r;
            }
        }
        return otherwise;
    }

    private int likelySealed(int otherwise) {
        for (int i = 0; i < 20; i++) {
            int r = register();
            if (held[r].tag && !held[r].open()) {
                return r;
            }
        }
        return otherwise;
    }

    private void puts(int d, int c) {
        int a = random.nextBoolean() ? (int) held[c].address : Runs.address(random);
        int m = (int) held[c].meta;
        if (random.nextBoolean()) {
            m ^= 1 << random.nextInt(32);
        } else if (random.nextBoolean()) {
            m = random.nextInt();
        }
        unit.put(d, a, Check.told(m));
        if (d != 0) {
            held[d] = new Model(false, a, m);
        }
    }

    private void anyRoot(int d) {
        if (d == 0 || roots == 8) {
            check.same("no root", throwsSomething(d), true);
            return;
        }
        int base = Runs.address(random);
        long from = Integer.toUnsignedLong(base);
        becomesRoot(d, base, Runs.length(random, Check.SPACE - from), random.nextInt(4096));
    }

    private boolean throwsSomething(int d) {
        try {
            unit.root(d, 0, 16, 1);
        } catch (IndexOutOfBoundsException | IllegalStateException e) {
            return true;
        }
        return false;
    }

    private void becomesRoot(int d, int base, long length, int perms) {
        held[d] = Model.root(Integer.toUnsignedLong(base), length, perms);
        roots++;
        check.same("root(.., " + base + ", " + length + ", ..)", unit.root(d, base, length, perms), (int) held[d].base());
    }

    private void compares(int c, int k) {
        check.same("subset", unit.subset(c, k), held[c].subset(held[k]));
        int x = (int) held[c].base() + random.nextInt(9) - 4;
        int n = (int) Math.max(0, Math.min(4096, held[c].top() - held[c].base() + random.nextInt(9) - 4));
        check.same("reaches", unit.reaches(c, x, n), held[c].reaches(Integer.toUnsignedLong(x), n));
    }

    private void becomes(int kind, int d, boolean got, Model due) {
        Model now = d == 0 ? Model.none() : due;
        check.same("call " + kind + " to " + d, got, now.tag);
        tagged[kind] += now.tag ? 1 : 0;
        held[d] = now;
    }
}
