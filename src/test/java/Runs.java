import java.util.Random;

/** Numbers for runs of calls, more of them near the edges than chance alone would give. */
final class Runs {
    private Runs() {
    }

    static int address(Random random) {
        switch (random.nextInt(4)) {
            case 0: return random.nextInt();
            case 1: return random.nextInt(64) - 32;
            case 2: return (1 << random.nextInt(32)) * random.nextInt(16) + random.nextInt(9) - 4;
            default: return random.nextInt() << random.nextInt(32);
        }
    }

    /** From 0 to most. */
    static long length(Random random, long most) {
        long length;
        switch (random.nextInt(4)) {
            case 0: length = random.nextLong() >>> 31 >>> random.nextInt(33); break;
            case 1: length = random.nextInt(300); break;
            case 2: length = ((long) random.nextInt(256) << random.nextInt(26)) + random.nextInt(9) - 4; break;
            default: length = most - random.nextInt(300);
        }
        return Math.max(0, Math.min(length, most));
    }
}
