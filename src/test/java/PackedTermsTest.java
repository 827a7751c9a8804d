/** Terms: what is packed, worked out by hand. */
public final class PackedTermsTest {
    private static final long SPACE = Check.SPACE;

    private final Check check = new Check();
    private CapUnit unit;

    public static void main(String[] args) {
        PackedTermsTest test = new PackedTermsTest();
        test.upTo2To32();
        test.exponent();
        test.ieAbove63();
        test.ieByExponent();
        test.withoutIe();
        test.baseRoundedDown();
        test.topRoundedUp();
        test.sixteenApart();
        test.roundedAnew();
        test.baseBits();
        test.topBits();
        test.exponentInLowBits();
        test.exact();
        test.check.end();
    }

    private void sentence(String words) {
        check.sentence(words);
        unit = new CapUnit();
    }

    private void exact(long base, long length, int bounds) {
        check.same("pack(" + base + ", " + length + ")", unit.pack((int) base, length), Check.EXACT + bounds);
    }

    private void about(long base, long length, int bounds) {
        check.same("pack(" + base + ", " + length + ")", unit.pack((int) base, length), bounds);
    }

    private void upTo2To32() {
        sentence("a base b and a top t (b to 2^32)");
        exact(0, SPACE, Check.scaled(26, 0, 0));
        about(1, SPACE - 1, Check.scaled(26, 0, 0));
        exact(-1, 1, Check.plain(0, 255));
        exact(-1, 0, Check.plain(63, 255));
        exact(0x80000000L, SPACE / 2, Check.scaled(25, 0, 64));
        exact(0, 0, 0);
    }

    private void exponent() {
        sentence("e is how many bits (t - b) / 128 has");
        for (int e = 0; e < 26; e++) {
            exact(0, 120L << e, Check.scaled(e, 56, 0));
            exact(0, 128L << e, Check.scaled(e + 1, 0, 0));
        }
    }

    private void ieAbove63() {
        sentence("IE is 1 if .. t - b above 63");
        exact(0, 62, Check.plain(62, 0));
        exact(0, 63, Check.plain(63, 0));
        exact(0, 64, Check.scaled(0, 0, 0));
        exact(0, 72, Check.scaled(0, 8, 0));
        exact(1001, 63, Check.plain(1064 % 64, 1001 % 256));
        about(1001, 64, Check.scaled(0, 1072 % 64, 1000 % 256));
    }

    private void ieByExponent() {
        sentence("IE is 1 if e is above 0");
        exact(0, 128, Check.scaled(1, 0, 0));
        about(0, 129, Check.scaled(1, 8, 0));
        exact(256, 144, Check.scaled(1, 8, 128));
    }

    private void withoutIe() {
        sentence("Without IE: B is b mod 256, T is t mod 64");
        exact(255, 0, Check.plain(63, 255));
        exact(256, 0, Check.plain(0, 0));
        exact(256, 63, Check.plain(63, 0));
        exact(257, 63, Check.plain(0, 1));
        exact(0x12345, 37, Check.plain(0x2A, 0x45));
        exact(-63, 63, Check.plain(0, 193));
    }

    private void baseRoundedDown() {
        sentence("With it: b is rounded down .. to multiples of 2^(e + 3)");
        exact(1000, 72, Check.scaled(0, 1072 % 64, 1000 % 256));
        about(1001, 71, Check.scaled(0, 1072 % 64, 1000 % 256));
        about(1007, 65, Check.scaled(0, 1072 % 64, 1000 % 256));
        exact(1008, 64, Check.scaled(0, 1072 % 64, 1008 % 256));
        // Units of 128.
        about(0x1000007F, 0x581, Check.scaled(4, 32, 0));
        exact(0x10000080, 0x580, Check.scaled(4, 32, 8));
    }

    private void topRoundedUp() {
        sentence("t up, to multiples of 2^(e + 3)");
        exact(1000, 72, Check.scaled(0, 1072 % 64, 1000 % 256));
        about(1000, 73, Check.scaled(0, 1080 % 64, 1000 % 256));
        about(1000, 79, Check.scaled(0, 1080 % 64, 1000 % 256));
        exact(1000, 80, Check.scaled(0, 1080 % 64, 1000 % 256));
        // Units of 128.
        exact(0x10000000, 0x500, Check.scaled(4, 16, 0));
        about(0x10000000, 0x501, Check.scaled(4, 24, 0));
        // Up to 2^32 itself.
        about(0x80000000L, SPACE / 2 - 1, Check.scaled(25, 0, 64));
    }

    private void sixteenApart() {
        sentence("if these are 16 or more such apart, e is one more");
        exact(0, 120, Check.scaled(0, 56, 0));
        about(7, 113, Check.scaled(0, 56, 0));
        about(7, 114, Check.scaled(1, 0, 0));
        about(0, 121, Check.scaled(1, 0, 0));
        about(0, 127, Check.scaled(1, 0, 0));
        // 17 apart, and then 9.
        about(7, 127, Check.scaled(1, 8, 0));
        about(31, 226, Check.scaled(2, 8, 0));
        // The largest e, by one more.
        exact(0, 15L << 28, Check.scaled(25, 56, 0));
        about(0, (15L << 28) + 1, Check.scaled(26, 0, 0));
        about(1, SPACE - 1, Check.scaled(26, 0, 0));
        about(0, SPACE - 1, Check.scaled(26, 0, 0));
    }

    private void roundedAnew() {
        sentence("and they are rounded (from b, t) anew");
        // 8 and 136 are 16 apart in units of 8, but no multiples of 16: 0 and 144.
        about(8, 127, Check.scaled(1, 8, 0));
        // 16 to 144 stay as they are.
        about(16, 127, Check.scaled(1, 8, 8));
        // 24 to 151: 16 to 160.
        about(24, 127, Check.scaled(1, 16, 8));
    }

    private void baseBits() {
        sentence("B is bits e to e + 7 of b");
        exact(0x12340000, 0x30000, Check.scaled(11, 0x20, 0x80));
        exact(0xF8, 64, Check.scaled(0, 56, 0xF8));
        exact(0x100, 64, Check.scaled(0, 0, 0));
        exact(0x0F80, 0x400, Check.scaled(4, 0x38, 0xF8));
        exact(0x1000, 0x400, Check.scaled(4, 0, 0));
    }

    private void topBits() {
        sentence("T bits e to e + 5 of t");
        exact(0, 0x38 + 64, Check.scaled(0, 0x38, 0));
        exact(0x40, 64, Check.scaled(0, 0, 0x40));
        exact(0x400, 0x780, Check.scaled(4, 0x38, 0x40));
        exact(0x400, 0x400, Check.scaled(4, 0, 0x40));
        exact(0xC0000000L, 0x40000000L, Check.scaled(24, 0, 0xC0));
    }

    private void exponentInLowBits() {
        sentence("with e / 8 and e mod 8 as lowest three bits");
        int[] exponents = {0, 1, 7, 8, 9, 15, 16, 23, 24, 25};
        for (int e : exponents) {
            int got = unit.pack(0, 72L << e);
            check.same("T's of " + e, got / 256 % 8, e / 8);
            check.same("B's of " + e, got % 8, e % 8);
        }
        check.same("T's of 26", unit.pack(0, SPACE) / 256 % 8, 3);
        check.same("B's of 26", unit.pack(0, SPACE) % 8, 2);
    }

    private void exact() {
        sentence("EXACT: nothing was rounded");
        check.same("neither", unit.pack(1000, 72) / Check.EXACT, 1);
        check.same("only b", unit.pack(1001, 71) / Check.EXACT, 0);
        check.same("only t", unit.pack(1000, 71) / Check.EXACT, 0);
        check.same("both", unit.pack(1001, 70) / Check.EXACT, 0);
        check.same("neither in units of 8, both in units of 16", unit.pack(8, 128) / Check.EXACT, 0);
        check.same("neither in units of 16", unit.pack(16, 128) / Check.EXACT, 1);
        check.same("all short ones, odd", unit.pack(1001, 63) / Check.EXACT, 1);
        check.same("no byte", unit.pack(1001, 0) / Check.EXACT, 1);
        check.same("all", unit.pack(0, SPACE) / Check.EXACT, 1);
        check.same("nearly all", unit.pack(0, SPACE - 1) / Check.EXACT, 0);
    }
}
