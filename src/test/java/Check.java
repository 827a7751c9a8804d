/** Counts and prints the answers that are not as due; a test ends with end(). */
final class Check {
    static final long SPACE = 4294967296L;
    static final int NULL_META = 1000194;

    private int wrong = 0;
    private int looked = 0;

    /** A call that is looked at for what it throws. */
    interface Call {
        void run();
    }

    void same(String call, long got, long due) {
        looked++;
        if (got != due) {
            wrong++;
            System.out.println(call + " answered " + got + ", due is " + due);
        }
    }

    void same(String call, boolean got, boolean due) {
        same(call, got ? 1 : 0, due ? 1 : 0);
    }

    /** All eight things that are told of a register. */
    void register(String when, CapUnit unit, int r, long... due) {
        for (int what = 0; what < due.length; what++) {
            same(when + ": told(" + r + ", " + what + ")", unit.told(r, what), due[what]);
        }
    }

    void isNull(String when, CapUnit unit, int r) {
        register(when, unit, r, 0, 0, 0, 0, SPACE, 0, 15, 0);
    }

    void noRegister(String call, Call made) {
        fails(call, IndexOutOfBoundsException.class, made);
    }

    void noArgument(String call, Call made) {
        fails(call, IllegalArgumentException.class, made);
    }

    void noState(String call, Call made) {
        fails(call, IllegalStateException.class, made);
    }

    private void fails(String call, Class<?> due, Call made) {
        looked++;
        Class<?> got = null;
        try {
            made.run();
        } catch (RuntimeException e) {
            got = e.getClass();
        }
        if (got != due) {
            wrong++;
            System.out.println(call + " threw " + got + ", due is " + due);
        }
    }

    void end() {
        if (looked == 0 || wrong != 0) {
            System.out.println(wrong + " of " + looked + " answers are not as due");
            System.exit(1);
        }
    }

    /** META as it is told, of META as it is. */
    static int told(int meta) {
        return meta ^ NULL_META;
    }

    static int meta(int perms, int type, int bounds) {
        return perms << 20 | type << 16 | bounds;
    }
}
