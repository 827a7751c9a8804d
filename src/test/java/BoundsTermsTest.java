/** Terms, 2: the bounds that IE, T, B and an address have, worked out by hand. */
public final class BoundsTermsTest {
    private static final long SPACE = Check.SPACE;

    private final Check check = new Check();
    private CapUnit unit;

    public static void main(String[] args) {
        BoundsTermsTest test = new BoundsTermsTest();
        test.exponent();
        test.exponentAtMost26();
        test.lowBitsCountAs0();
        test.withoutIe();
        test.topBitsOfB();
        test.topBelowB();
        test.topWithIe();
        test.topMod4();
        test.middleOfTheAddress();
        test.edgeOfThreeBits();
        test.belowTheEdge();
        test.baseMod2To32();
        test.topMod2To33();
        test.onlyBelow25();
        test.topTurned();
        test.notBelowBase();
        test.notAboveTop();
        test.check.end();
    }

    private void sentence(String words) {
        check.sentence(words);
        unit = new CapUnit();
    }

    private void due(int meta, long address, long base, long top) {
        check.bounds(unit, meta, (int) address, base, top);
    }

    private void exponent() {
        sentence("if IE is 1, E is 8 (T mod 8) + B mod 8");
        for (int e = 0; e <= 26; e++) {
            due(Check.scaled(e, 0, 0), 0, 0, 64L << e);
        }
    }

    private void exponentAtMost26() {
        sentence("26 at most");
        for (int e = 25; e < 64; e++) {
            due(Check.scaled(e, 0, 0), 0, 0, e == 25 ? SPACE / 2 : SPACE);
            due(Check.scaled(e, 0, 0), -1, 0, e == 25 ? SPACE / 2 : SPACE);
        }
        due(Check.scaled(27, 8, 8), 0, 8L << 26, 72L << 26);
        due(Check.scaled(63, 8, 8), 0, 8L << 26, 72L << 26);
    }

    private void lowBitsCountAs0() {
        sentence("and these low bits of T and B count as 0");
        due(Check.scaled(5, 16, 8), 8 << 5, 8 << 5, 80 << 5);
        due(Check.scaled(9, 16, 8), 8 << 9, 8 << 9, 80 << 9);
        due(Check.scaled(15, 16, 8), 8 << 15, 8 << 15, 80 << 15);
        // T is 8 and B is 8: T is below B only if B's low 7 counts.
        due(Check.scaled(7, 8, 8), 8 << 7, 8 << 7, 72 << 7);
    }

    private void withoutIe() {
        sentence("else E is 0");
        due(Check.plain(37, 3), 3, 3, 37);
        due(Check.plain(63, 7), 7, 7, 63);
        due(Check.plain(2, 2), 2, 2, 2);
    }

    private void topBitsOfB() {
        sentence("Above its six bits T has two more: bits 6, 7 of B");
        for (int b = 0; b < 256; b += 64) {
            due(Check.plain(8, b), b, b, b + 8);
            due(Check.plain(63, b), b, b, b + 63);
        }
    }

    private void topBelowB() {
        sentence("and 1 if T's six are below B's lowest six");
        due(Check.plain(21, 84), 84, 84, 85);
        due(Check.plain(20, 84), 84, 84, 84);
        due(Check.plain(19, 84), 84, 84, 147);
        due(Check.plain(62, 63), 63, 63, 126);
        due(Check.plain(0, 1), 1, 1, 64);
        due(Check.plain(0, 0), 0, 0, 0);
    }

    private void topWithIe() {
        sentence("and IE");
        due(Check.scaled(0, 24, 8), 8, 8, 88);
        due(Check.scaled(0, 8, 8), 8, 8, 72);
        due(Check.scaled(0, 0, 8), 8, 8, 128);
    }

    private void topMod4() {
        sentence("mod 4");
        // 3 and 1 more is 4, T is 3 in the next block of 256.
        due(Check.plain(3, 249), 249, 249, 259);
        due(Check.scaled(0, 16, 192), 192, 192, 272);
        // 3 and 2 more is 5, T is 64 in the next block.
        due(Check.scaled(0, 0, 200), 200, 200, 320);
    }

    private void middleOfTheAddress() {
        sentence("m are bits E to E + 7 of a");
        // R is 1: bounds move up a block of 4096 where m gets to 32, at 512.
        int meta = Check.scaled(4, 0, 64);
        due(meta, 4096 + 511, 1024, 2048);
        due(meta, 4096 + 512, 4096 + 1024, 4096 + 2048);
        due(meta, 4096 + 527, 4096 + 1024, 4096 + 2048);
        due(meta, 4096 + 4095, 4096 + 1024, 4096 + 2048);
        due(meta, 8192 + 511, 4096 + 1024, 4096 + 2048);
        due(meta, 8192 + 512, 8192 + 1024, 8192 + 2048);
    }

    private void edgeOfThreeBits() {
        sentence("R is B / 32 - 1 (of three bits)");
        // B below 32: R is 7, and the bounds move where m gets to 224.
        int[] smallest = {0, 1, 31};
        for (int b : smallest) {
            due(Check.plain(b, b), 1024 + 223, 1024 + b, 1024 + b);
            due(Check.plain(b, b), 1024 + 224, 1280 + b, 1280 + b);
        }
        // B from 32 to 63: R is 0, and no m is below it.
        due(Check.plain(32, 32), 1024, 1024 + 32, 1024 + 32);
        due(Check.plain(63, 63), 1024, 1024 + 63, 1024 + 63);
        due(Check.plain(63, 63), 1279, 1024 + 63, 1024 + 63);
        // B from 224: R is 6.
        due(Check.plain(63, 255), 1024 + 191, 1024 - 1, 1024 - 1);
        due(Check.plain(63, 255), 1024 + 192, 1280 - 1, 1280 - 1);
    }

    private void belowTheEdge() {
        sentence("h(x) is 1 if x / 32 is below R, else 0");
        for (int eighth = 1; eighth < 8; eighth++) {
            int b = 32 * eighth;
            int edge = b - 32;
            due(Check.plain(b % 64, b), 1024 + edge, 1024 + b, 1024 + b);
            due(Check.plain(b % 64, b), 1024 + edge + 255, 1024 + b, 1024 + b);
            due(Check.plain(b % 64, b), 1024 + edge - 1, 1024 - 256 + b, 1024 - 256 + b);
        }
    }

    private void baseMod2To32() {
        sentence("BASE is .. mod 2^32");
        check.same("a block above the last", unit.bound(Check.plain(8, 0), -1, false), 0);
        check.same("a block above the last", unit.bound(Check.plain(30, 17), -32, false), 17);
        check.same("a block below the first", unit.bound(Check.plain(56, 224), 0, false), SPACE - 32);
        check.same("a block below the first", unit.bound(Check.scaled(20, 0, 192), 5, false), SPACE - (64L << 20));
        check.same("B above the space", unit.bound(Check.scaled(26, 0, 64), 0, false), 0);
        check.same("B above the space", unit.bound(Check.scaled(25, 0, 184), 0, false), 56L << 25);
    }

    private void topMod2To33() {
        sentence("TOP likewise by T, mod 2^33");
        check.same("above 2^32", unit.bound(1017, -1, true), SPACE + 3);
        check.same("T 72 of 2^26", unit.bound(Check.scaled(26, 8, 0), 0, true), SPACE + SPACE / 8);
        check.same("T 128 of 2^26", unit.bound(Check.scaled(26, 0, 64), 0, true), 0);
        check.same("T 136 of 2^26", unit.bound(Check.scaled(26, 8, 64), 0, true), SPACE / 8);
        check.same("T 192 of 2^26", unit.bound(Check.scaled(26, 0, 128), 0, true), SPACE);
        check.same("T 0 of 2^25, a block above", unit.bound(Check.scaled(25, 0, 184), -1, true), 0);
    }

    private void onlyBelow25() {
        sentence("if E is below 25");
        // Two halves apart, E 24: T is 0, a block of 2^32 above the base or not.
        due(Check.scaled(24, 0, 192), 0, 192L << 24, SPACE);
        due(Check.scaled(24, 0, 192), -1, 192L << 24, SPACE);
        // Two halves apart, E 25: 72 and 192 of 2^25.
        due(Check.scaled(25, 0, 72), 0, 0x90000000L, 0x180000000L);
        due(Check.scaled(25, 0, 72), -1, 0x90000000L, 0x180000000L);
        // Three halves apart, E 26: 32 and 128 of 2^26.
        due(Check.scaled(26, 0, 32), 0, 0x80000000L, 0);
        due(Check.scaled(63, 0, 32), 0, 0x80000000L, 0);
    }

    private void topTurned() {
        sentence("and bits 31, 32 of TOP less bit 31 of BASE (mod 4) are above 1, bit 32 of TOP is turned");
        // 0, as 0 less 0 and 1 less 1
        due(Check.plain(8, 0), 0, 0, 8);
        due(Check.plain(8, 0), 0x80000000L, 0x80000000L, 0x80000008L);
        // 1, as 1 less 0 and 2 less 1
        due(Check.plain(16, 240), 0x7FFFFFF0L, 0x7FFFFFF0L, 0x80000010L);
        due(Check.plain(3, 249), -1, SPACE - 7, SPACE + 3);
        // 2, as 2 less 0 and 3 less 1
        due(Check.plain(8, 0), -1, 0, 8);
        due(Check.plain(56, 224), 0, SPACE - 32, SPACE - 8);
        // 3, as 0 less 1 and 3 less 0
        due(Check.plain(3, 249), 0, SPACE - 7, SPACE + 3);
        due(Check.scaled(24, 16, 24), 0xE0000000L, 24L << 24, 144L << 24);
    }

    private void notBelowBase() {
        sentence("x with n bytes is in BOUNDS if BASE is not above x");
        unit.root(1, 1000, 60, 0);
        check.same("x is BASE", unit.reaches(1, 1000, 1), true);
        check.same("x is BASE, no byte", unit.reaches(1, 1000, 0), true);
        check.same("x is a byte lower", unit.reaches(1, 999, 1), false);
        check.same("x is a byte lower, no byte", unit.reaches(1, 999, 0), false);
    }

    private void notAboveTop() {
        sentence("x + n not above TOP");
        unit.root(1, 1000, 60, 0);
        check.same("x + n is TOP", unit.reaches(1, 1059, 1), true);
        check.same("x + n is a byte higher", unit.reaches(1, 1059, 2), false);
        check.same("x is TOP, no byte", unit.reaches(1, 1060, 0), true);
        check.same("x is above TOP, no byte", unit.reaches(1, 1061, 0), false);
        // x + n and TOP are not cut to 32 bits.
        check.same("x + n is 2^32, as TOP", unit.reaches(0, -1, 1), true);
        check.same("x + n is above 2^32", unit.reaches(0, -1, 2), false);
        unit.put(2, -1, Check.told(1017));
        check.same("x + n is 2^32 + 3, as TOP", unit.reaches(2, -1, 4), true);
        check.same("x + n is 2^32 + 4", unit.reaches(2, -1, 5), false);
        check.same("a byte round the space", unit.reaches(2, 0, 1), false);
    }
}
