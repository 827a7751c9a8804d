/**
 * Counts and prints the answers that are not as due (the first of many), each behind the sentence of the document
 * that it breaks; a test ends with end().
 */
final class Check {
    static final long SPACE = 4294967296L;
    static final int NULL_META = 1000194;
    static final int IE = 16384;
    static final int EXACT = 32768;

    /** Runs from seeds may break thousands of times by one fault; the first few tell enough. */
    private static final int MOST_TOLD = 20;

    private String sentence = "";
    private int lookedBefore = -1;
    private int told = 0;
    private int wrong = 0;
    private int looked = 0;

    /** A call that is looked at for what it throws. */
    interface Call {
        void run();
    }

    /** What is looked at from here on tests these words of the document. */
    void sentence(String words) {
        everySentenceIsTested();
        sentence = words;
        lookedBefore = looked;
        told = 0;
    }

    void same(String call, long got, long due) {
        looked++;
        if (got != due) {
            tell(call + " answered " + got + ", due is " + due);
        }
    }

    void same(String call, boolean got, boolean due) {
        same(call, got ? 1 : 0, due ? 1 : 0);
    }

    /** The first of the eight things that are told of a register, as many as are given. */
    void register(String when, CapUnit unit, int r, long... due) {
        for (int what = 0; what < due.length; what++) {
            same(when + ": told(" + r + ", " + what + ")", unit.told(r, what), due[what]);
        }
    }

    void isNull(String when, CapUnit unit, int r) {
        register(when, unit, r, 0, 0, 0, 0, SPACE, 0, 15, 0);
    }

    /** BASE and TOP by bound. */
    void bounds(CapUnit unit, int meta, int address, long base, long top) {
        same("bound(" + meta + ", " + address + ", false)", unit.bound(meta, address, false), base);
        same("bound(" + meta + ", " + address + ", true)", unit.bound(meta, address, true), top);
    }

    void noRegister(String call, Call made) {
        fails(call, IndexOutOfBoundsException.class, made);
    }

    void noArgument(String call, Call made) {
        fails(call, IllegalArgumentException.class, made);
    }

    void noState(String call, Call made) {
        fails(call, IllegalStateException.class, made);
    }

    private void fails(String call, Class<?> due, Call made) {
        looked++;
        Class<?> got = null;
        try {
            made.run();
        } catch (RuntimeException e) {
            got = e.getClass();
        }
        if (got != due) {
            tell(call + " threw " + got + ", due is " + due);
        }
    }

    private void tell(String what) {
        wrong++;
        told++;
        if (told <= MOST_TOLD) {
            System.out.println((sentence.isEmpty() ? "" : "\"" + sentence + "\": ") + what);
        }
    }

    private void everySentenceIsTested() {
        if (looked == lookedBefore) {
            tell("nothing tests this");
        }
    }

    void end() {
        everySentenceIsTested();
        if (looked == 0 || wrong != 0) {
            System.out.println(wrong + " of " + looked + " answers are not as due");
            System.exit(1);
        }
    }

    /** What is no number of a register, just beside those and far from them. */
    static int[] noRegisters() {
        return new int[] {-1, 32, Integer.MIN_VALUE, Integer.MAX_VALUE};
    }

    /** META as it is told, of META as it is. */
    static int told(int meta) {
        return meta ^ NULL_META;
    }

    static int meta(int perms, int type, int bounds) {
        return perms << 20 | type << 16 | bounds;
    }

    /** The fifteen bits without IE. */
    static int plain(int t, int b) {
        return t * 256 + b;
    }

    /** The fifteen bits with IE, of an exponent and T and B whose low three bits are 0. */
    static int scaled(int e, int t, int b) {
        return IE + (t + e / 8) * 256 + b + e % 8;
    }
}
