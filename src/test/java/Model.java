/**
 * A second writing of the document, by division and remainder alone, that the tests compare with.
 * It holds one capability; its calls answer new ones.
 */
final class Model {
    static final long SPACE = 4294967296L;

    final boolean tag;
    final long address;
    final long meta;

    Model(boolean tag, long address, long meta) {
        this.tag = tag;
        this.address = Math.floorMod(address, SPACE);
        this.meta = Math.floorMod(meta, SPACE);
    }

    static Model none() {
        return new Model(false, 0, 1000194);
    }

    // META's parts

    long perms() {
        return meta / 1048576;
    }

    long type() {
        return meta / 65536 % 16;
    }

    boolean open() {
        return type() == 15;
    }

    boolean may(int bit) {
        return perms() / power(bit) % 2 == 1;
    }

    Model tagged(boolean tag) {
        return new Model(tag, address, meta);
    }

    Model typed(long type) {
        return new Model(tag, address, meta + (type - type()) * 65536);
    }

    Model permitted(long perms) {
        return new Model(tag, address, meta + (perms - perms()) * 1048576);
    }

    Model bounded(long bounds) {
        return new Model(tag, address, meta - meta % 32768 + bounds % 32768);
    }

    // BOUNDS

    static long power(long n) {
        long power = 1;
        for (long i = 0; i < n; i++) {
            power *= 2;
        }
        return power;
    }

    /** BASE and TOP. */
    static long[] bounds(long meta, long a) {
        long ie = meta / 16384 % 2;
        long t = meta / 256 % 64;
        long b = meta % 256;
        long e = 0;
        if (ie == 1) {
            e = Math.min(8 * (t % 8) + b % 8, 26);
            t -= t % 8;
            b -= b % 8;
        }
        long more = b / 64 + (t < b % 64 ? 1 : 0) + ie;
        t += more % 4 * 64;
        long m = a / power(e) % 256;
        long r = Math.floorMod(b / 32 - 1, 8);
        long above = a / power(e + 8);
        long base = (above + h(b, r) - h(m, r)) * power(e + 8) + b * power(e);
        long top = (above + h(t, r) - h(m, r)) * power(e + 8) + t * power(e);
        base = Math.floorMod(base, SPACE);
        top = Math.floorMod(top, 2 * SPACE);
        if (e < 25 && Math.floorMod(top / power(31) - base / power(31), 4) > 1) {
            top = (top + SPACE) % (2 * SPACE);
        }
        return new long[] {base, top};
    }

    private static long h(long x, long r) {
        return x / 32 < r ? 1 : 0;
    }

    long base() {
        return bounds(meta, address)[0];
    }

    long top() {
        return bounds(meta, address)[1];
    }

    boolean reaches(long x, long n) {
        return base() <= x && x + n <= top();
    }

    boolean holds(Model inner) {
        return base() <= inner.base() && inner.top() <= top() && (inner.perms() & ~perms()) == 0;
    }

    // PACKED

    /** The fifteen bits, 1 if exact, the rounded base, the rounded top, the unit. */
    static long[] packed(long b, long t) {
        long e = 0;
        for (long rest = (t - b) / 128; rest > 0; rest /= 2) {
            e++;
        }
        if (e == 0 && t - b <= 63) {
            return new long[] {b % 256 + t % 64 * 256, 1, b, t, 1};
        }
        long unit = power(e + 3);
        if (up(t, unit) / unit - b / unit >= 16) {
            e++;
            unit *= 2;
        }
        long base = b / unit * unit;
        long top = up(t, unit);
        long bBits = base / unit % 32 * 8 + e % 8;
        long tBits = top / unit % 8 * 8 + e / 8;
        long exact = base == b && top == t ? 1 : 0;
        return new long[] {16384 + tBits * 256 + bBits, exact, base, top, unit};
    }

    private static long up(long number, long unit) {
        return (number + unit - 1) / unit * unit;
    }

    // The calls

    static Model root(long base, long length, long perms) {
        return none().permitted(perms).bounded(packed(base, base + length)[0]).at(base).tagged(true);
    }

    private Model at(long address) {
        return new Model(tag, address, meta);
    }

    Model narrow(long length, boolean exactly) {
        long[] packed = packed(address, Math.min(address + length, SPACE));
        boolean fit = reaches(address, length) && (!exactly || packed[1] == 1);
        return bounded(packed[0]).tagged(tag && open() && fit);
    }

    Model move(long x) {
        Model moved = at(x);
        boolean same = moved.base() == base() && moved.top() == top();
        return moved.tagged(tag && open() && same);
    }

    Model keep(int p) {
        return permitted(perms() & p).tagged(tag && open());
    }

    Model seal(Model k) {
        boolean key = k.tag && k.open() && k.may(7) && k.reaches(k.address, 1) && k.address < 12;
        return typed(k.address % 16).tagged(tag && open() && key);
    }

    Model unseal(Model k) {
        boolean key = k.tag && k.open() && k.may(9) && k.reaches(k.address, 1);
        boolean fits = type() < 12 && type() == k.address;
        Model opened = k.may(0) || !may(0) ? this : permitted(perms() - 1);
        return opened.typed(15).tagged(tag && key && fits);
    }

    Model gate() {
        return typed(14).tagged(tag && open() && may(1));
    }

    Model build(Model e) {
        boolean fits = e.base() <= e.top() && holds(e);
        return e.typed(e.type() == 14 ? 14 : 15).tagged(tag && open() && fits);
    }

    boolean subset(Model d) {
        return tag == d.tag && holds(d);
    }

    long told(int what) {
        switch (what) {
            case 0: return tag ? 1 : 0;
            case 1: return (int) address;
            case 2: return (int) (meta ^ 1000194);
            case 3: return base();
            case 4: return top() - base();
            case 5: return perms();
            case 6: return type();
            default: return address - base();
        }
    }
}
