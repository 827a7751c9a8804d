/**
 * Capabilities with bounds packed into fifteen bits (CHERI Concentrate, addresses of 32 bits),
 * in thirty-two registers. No call ever makes one that reaches more than a root was given.
 */
public final class CapUnit {
    private static final int REGISTERS = 32;
    private static final int MOST_ROOTS = 8;
    private static final int MOST_BYTES = 4096;

    /** The first number that is no address: 2^32. */
    private static final long SPACE = 4294967296L;
    private static final long ADDRESS_BITS = SPACE - 1;
    private static final long TOP_BITS = 2 * SPACE - 1;

    private static final int NULL_META = 1000194;
    private static final int PERMS_AT = 20;
    private static final int ALL_PERMS = 4095;
    private static final int TYPE_AT = 16;
    private static final int TYPE_BITS = 15;
    private static final int BOUNDS_BITS = 32767;
    /** Beside packed bounds, in the bit above them, which is none of theirs. */
    private static final int EXACT = 32768;
    private static final int IE = 16384;
    private static final int T_AT = 8;
    private static final int T_BITS = 63;
    private static final int B_BITS = 255;
    /** The low bits that T and B lend to the exponent. */
    private static final int LENT_BITS = 7;

    private static final int MANTISSA_WIDTH = 8;
    private static final int LENT_WIDTH = 3;
    private static final int LARGEST_E = 26;
    private static final int LONGEST_WITHOUT_IE = 63;
    private static final int TOO_MANY_UNITS = 16;

    private static final int OPEN = 15;
    private static final int GATE = 14;
    private static final int SEALING_TYPES = 12;

    private static final int GLOBAL = 1;
    private static final int RUN = 2;
    private static final int SEAL = 128;
    private static final int UNSEAL = 512;

    private final boolean[] tags;
    private final int[] addresses;
    private final int[] metas;

    private final long[] rootBases;
    private final long[] rootTops;
    private final int[] rootPerms;
    private int roots;

    public CapUnit() {
        tags = new boolean[REGISTERS];
        addresses = new int[REGISTERS];
        metas = new int[REGISTERS];
        for (int r = 0; r < REGISTERS; r++) {
            metas[r] = NULL_META;
        }
        rootBases = new long[MOST_ROOTS];
        rootTops = new long[MOST_ROOTS];
        rootPerms = new int[MOST_ROOTS];
        roots = 0;
    }

    public int root(int r, int base, long length, int perms)
            throws IndexOutOfBoundsException, IllegalArgumentException, IllegalStateException {
        if (r < 1 || r >= REGISTERS) {
            throw new IndexOutOfBoundsException("a root goes to register 1 to 31");
        }
        if (!fitsSpace(base, length) || perms < 0 || perms > ALL_PERMS) {
            throw new IllegalArgumentException("bounds beyond 2^32, or no such perms");
        }
        if (roots >= MOST_ROOTS) {
            throw new IllegalStateException("there are 8 roots");
        }
        int bounds = packed(unsigned(base), unsigned(base) + length) & BOUNDS_BITS;
        become(r, true, base, (perms << PERMS_AT) | (OPEN << TYPE_AT) | bounds);
        rootBases[roots] = baseIn(r);
        rootTops[roots] = topIn(r);
        rootPerms[roots] = perms;
        roots++;
        return (int) baseIn(r);
    }

    public void put(int d, int a, int m) throws IndexOutOfBoundsException {
        if (!isRegister(d)) {
            throw new IndexOutOfBoundsException("registers are 0 to 31");
        }
        become(d, false, a, m ^ NULL_META);
    }

    public boolean narrow(int d, int c, int length, boolean exactly) throws IndexOutOfBoundsException {
        if (!isRegister(c) || !isRegister(d)) {
            throw new IndexOutOfBoundsException("registers are 0 to 31");
        }
        long from = unsigned(addresses[c]);
        long bytes = unsigned(length);
        int bounds = packed(from, Math.min(from + bytes, SPACE));
        // The bytes asked for are looked at, not those up to 2^32: what goes beyond is never in bounds.
        boolean tag = isOpenWithTag(c) && isInBounds(c, from, bytes)
                && (!exactly || (bounds & EXACT) != 0);
        return become(d, tag, addresses[c], (metas[c] & ~BOUNDS_BITS) | (bounds & BOUNDS_BITS));
    }

    public boolean move(int d, int c, int x) throws IndexOutOfBoundsException {
        if (!isRegister(c) || !isRegister(d)) {
            throw new IndexOutOfBoundsException("registers are 0 to 31");
        }
        int meta = metas[c];
        boolean sameBounds = baseOf(meta, x) == baseIn(c) && topOf(meta, x) == topIn(c);
        return become(d, isOpenWithTag(c) && sameBounds, x, meta);
    }

    public boolean keep(int d, int c, int p) throws IndexOutOfBoundsException {
        if (!isRegister(c) || !isRegister(d)) {
            throw new IndexOutOfBoundsException("registers are 0 to 31");
        }
        int lost = ~p << PERMS_AT;
        return become(d, isOpenWithTag(c), addresses[c], metas[c] & ~lost);
    }

    public boolean seal(int d, int c, int k) throws IndexOutOfBoundsException {
        if (!isRegister(c) || !isRegister(d) || !isRegister(k)) {
            throw new IndexOutOfBoundsException("registers are 0 to 31");
        }
        boolean tag = isOpenWithTag(c) && isKey(k, SEAL)
                && unsigned(addresses[k]) < SEALING_TYPES;
        return become(d, tag, addresses[c], withType(metas[c], addresses[k] & TYPE_BITS));
    }

    public boolean unseal(int d, int c, int k) throws IndexOutOfBoundsException {
        if (!isRegister(c) || !isRegister(d) || !isRegister(k)) {
            throw new IndexOutOfBoundsException("registers are 0 to 31");
        }
        int type = typeOf(metas[c]);
        boolean tag = tags[c] && type < SEALING_TYPES && type == addresses[k] && isKey(k, UNSEAL);
        int meta = withType(metas[c], OPEN);
        if (!hasPerm(k, GLOBAL)) {
            meta &= ~(GLOBAL << PERMS_AT);
        }
        return become(d, tag, addresses[c], meta);
    }

    public boolean gate(int d, int c) throws IndexOutOfBoundsException {
        if (!isRegister(c) || !isRegister(d)) {
            throw new IndexOutOfBoundsException("registers are 0 to 31");
        }
        boolean tag = isOpenWithTag(c) && hasPerm(c, RUN);
        return become(d, tag, addresses[c], withType(metas[c], GATE));
    }

    public boolean build(int d, int c, int e) throws IndexOutOfBoundsException {
        if (!isRegister(c) || !isRegister(d) || !isRegister(e)) {
            throw new IndexOutOfBoundsException("registers are 0 to 31");
        }
        boolean tag = isOpenWithTag(c) && baseIn(e) <= topIn(e)
                && isWithin(e, baseIn(c), topIn(c), permsOf(metas[c]));
        int type = typeOf(metas[e]) == GATE ? GATE : OPEN;
        return become(d, tag, addresses[e], withType(metas[e], type));
    }

    public boolean subset(int c, int d) throws IndexOutOfBoundsException {
        if (!isRegister(c) || !isRegister(d)) {
            throw new IndexOutOfBoundsException("registers are 0 to 31");
        }
        return tags[c] == tags[d] && isWithin(d, baseIn(c), topIn(c), permsOf(metas[c]));
    }

    public long told(int r, int what) throws IndexOutOfBoundsException, IllegalArgumentException {
        if (!isRegister(r)) {
            throw new IndexOutOfBoundsException("registers are 0 to 31");
        }
        switch (what) {
            case 0:
                return tags[r] ? 1 : 0;
            case 1:
                return addresses[r];
            case 2:
                return metas[r] ^ NULL_META;
            case 3:
                return baseIn(r);
            case 4:
                return topIn(r) - baseIn(r);
            case 5:
                return permsOf(metas[r]);
            case 6:
                return typeOf(metas[r]);
            case 7:
                return unsigned(addresses[r]) - baseIn(r);
            default:
                throw new IllegalArgumentException("0 to 7 can be told");
        }
    }

    public boolean reaches(int r, int x, int n) throws IndexOutOfBoundsException, IllegalArgumentException {
        if (!isRegister(r)) {
            throw new IndexOutOfBoundsException("registers are 0 to 31");
        }
        if (n < 0 || n > MOST_BYTES) {
            throw new IllegalArgumentException("bytes are 0 to 4096");
        }
        return isInBounds(r, unsigned(x), n);
    }

    public int pack(int base, long length) throws IllegalArgumentException {
        if (!fitsSpace(base, length)) {
            throw new IllegalArgumentException("length below 0, or bounds beyond 2^32");
        }
        return packed(unsigned(base), unsigned(base) + length);
    }

    public long bound(int meta, int address, boolean top) {
        return top ? topOf(meta, address) : baseOf(meta, address);
    }

    public long rounded(long length, boolean unit) throws IllegalArgumentException {
        if (!fitsSpace(0, length)) {
            throw new IllegalArgumentException("length is 0 to 2^32");
        }
        int bounds = packed(0, length);
        if (!unit) {
            return topOf(bounds, 0);
        }
        return (bounds & IE) != 0 ? 1L << (exponentOf(bounds) + LENT_WIDTH) : 1;
    }

    public int grown() {
        int count = 0;
        for (int r = 0; r < REGISTERS; r++) {
            if (tags[r] && !isFromRoot(r)) {
                count++;
            }
        }
        return count;
    }

    // Registers

    private static boolean isRegister(int r) {
        return r >= 0 && r < REGISTERS;
    }

    /** Whether register d has a tag afterwards. */
    private boolean become(int d, boolean tag, int address, int meta) {
        if (d == 0) {
            return false;
        }
        tags[d] = tag;
        addresses[d] = address;
        metas[d] = meta;
        return tag;
    }

    private long baseIn(int r) {
        return baseOf(metas[r], addresses[r]);
    }

    private long topIn(int r) {
        return topOf(metas[r], addresses[r]);
    }

    private boolean isOpenWithTag(int r) {
        return tags[r] && typeOf(metas[r]) == OPEN;
    }

    private boolean hasPerm(int r, int perm) {
        return (permsOf(metas[r]) & perm) != 0;
    }

    private boolean isInBounds(int r, long x, long bytes) {
        return baseIn(r) <= x && x + bytes <= topIn(r);
    }

    /** Whether register k may seal or unseal (by that perm) with the type that is its address. */
    private boolean isKey(int k, int perm) {
        return isOpenWithTag(k) && hasPerm(k, perm) && isInBounds(k, unsigned(addresses[k]), 1);
    }

    private boolean isWithin(int r, long base, long top, int perms) {
        return baseIn(r) >= base && topIn(r) <= top && (permsOf(metas[r]) & ~perms) == 0;
    }

    private boolean isFromRoot(int r) {
        for (int i = 0; i < roots; i++) {
            if (isWithin(r, rootBases[i], rootTops[i], rootPerms[i])) {
                return true;
            }
        }
        return false;
    }

    // The parts of a meta

    private static int permsOf(int meta) {
        return meta >>> PERMS_AT;
    }

    private static int typeOf(int meta) {
        return (meta >>> TYPE_AT) & TYPE_BITS;
    }

    private static int withType(int meta, int type) {
        return (meta & ~(TYPE_BITS << TYPE_AT)) | (type << TYPE_AT);
    }

    private static int exponentOf(int meta) {
        if ((meta & IE) == 0) {
            return 0;
        }
        int e = (((meta >> T_AT) & LENT_BITS) << LENT_WIDTH) + (meta & LENT_BITS);
        return e < LARGEST_E ? e : LARGEST_E;
    }

    private static int baseMantissa(int meta) {
        int b = meta & B_BITS;
        return (meta & IE) != 0 ? b & ~LENT_BITS : b;
    }

    private static int topMantissa(int meta) {
        int b = baseMantissa(meta);
        int t = (meta >> T_AT) & T_BITS;
        int high = b >> 6;
        if ((meta & IE) != 0) {
            t &= ~LENT_BITS;
            high++;
        }
        if (t < (b & T_BITS)) {
            high++;
        }
        return ((high & 3) << 6) | t;
    }

    // Bounds

    private static long unsigned(int number) {
        return number & ADDRESS_BITS;
    }

    private static boolean fitsSpace(int base, long length) {
        return length >= 0 && length <= SPACE - unsigned(base);
    }

    private static long baseOf(int meta, int address) {
        return placed(meta, address, baseMantissa(meta)) & ADDRESS_BITS;
    }

    private static long topOf(int meta, int address) {
        long top = placed(meta, address, topMantissa(meta)) & TOP_BITS;
        long base = placed(meta, address, baseMantissa(meta)) & ADDRESS_BITS;
        long halves = (top >> 31) - (base >> 31);
        // Only below 25 are bounds always shorter than 2^31, so that two halves apart tell a wrap.
        if (exponentOf(meta) < LARGEST_E - 1 && (halves & 3) > 1) {
            return top ^ SPACE;
        }
        return top;
    }

    /** Where a mantissa of these bounds stands, seen from the address; not yet cut to its width. */
    private static long placed(int meta, int address, int mantissa) {
        int e = exponentOf(meta);
        long a = unsigned(address);
        int middle = (int) (a >> e) & B_BITS;
        int edge = ((baseMantissa(meta) >> 5) - 1) & 7;
        long block = (a >> (e + MANTISSA_WIDTH)) + below(mantissa, edge) - below(middle, edge);
        return (block << (e + MANTISSA_WIDTH)) + ((long) mantissa << e);
    }

    private static int below(int mantissa, int edge) {
        return (mantissa >> 5) < edge ? 1 : 0;
    }

    // Packing

    /** The fifteen bits for bounds from b to t (at most 2^32), and EXACT if nothing was rounded. */
    private static int packed(long b, long t) {
        if (t - b <= LONGEST_WITHOUT_IE) {
            return EXACT | ((int) (t & T_BITS) << T_AT) | (int) (b & B_BITS);
        }
        int e = fittingExponent(b, t);
        long base = roundedDown(b, e);
        long top = roundedUp(t, e);
        int bBits = ((int) (base >> e) & B_BITS) | (e & LENT_BITS);
        int tBits = ((int) (top >> e) & T_BITS) | (e >> LENT_WIDTH);
        int exact = base == b && top == t ? EXACT : 0;
        return exact | IE | (tBits << T_AT) | bBits;
    }

    private static int fittingExponent(long b, long t) {
        int e = bitsOf((t - b) >> (MANTISSA_WIDTH - 1));
        long units = (roundedUp(t, e) - roundedDown(b, e)) >> (e + LENT_WIDTH);
        return units >= TOO_MANY_UNITS ? e + 1 : e;
    }

    private static int bitsOf(long number) {
        int bits = 0;
        while (bits < LARGEST_E && (number >> bits) != 0) {
            bits++;
        }
        return bits;
    }

    private static long roundedDown(long number, int e) {
        return number & -(1L << (e + LENT_WIDTH));
    }

    private static long roundedUp(long number, int e) {
        return roundedDown(number + (1L << (e + LENT_WIDTH)) - 1, e);
    }
}
