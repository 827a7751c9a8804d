/** Promise 4. */
public final class NarrowTest {
    private static final long SPACE = Check.SPACE;

    private final Check check = new Check();

    public static void main(String[] args) {
        NarrowTest test = new NarrowTest();
        test.becomes();
        test.noByte();
        test.lengthWithoutSign();
        test.beyondTheSpace();
        test.freeBit();
        test.withoutTag();
        test.notOpen();
        test.fromBase();
        test.upToTop();
        test.exactly();
        test.notExactly();
        test.registers();
        test.check.end();
    }

    /** 1 is all, 2 that at an address. */
    private static CapUnit unitAt(int address) {
        CapUnit unit = new CapUnit();
        unit.root(1, 0, SPACE, 4095);
        unit.move(2, 1, address);
        return unit;
    }

    private void becomes() {
        check.sentence("REGISTER d becomes c with BOUNDS from its ADDRESS on, length many, PACKED: whether it has a TAG");
        CapUnit unit = unitAt(1000);
        check.same("narrow(3, 2, 60, false)", unit.narrow(3, 2, 60, false), true);
        check.register("60", unit, 3, 1, 1000,
                Check.told(Check.meta(4095, 15, Check.plain(36, 232))), 1000, 60, 4095, 15, 0);
        check.same("narrow(3, 2, 1000, false)", unit.narrow(3, 2, 1000, false), true);
        check.register("1000", unit, 3, 1, 1000,
                Check.told(Check.meta(4095, 15, Check.scaled(4, 0, 56))), 896, 1152, 4095, 15, 104);
        check.same("the source stays", unit.told(2, 4), SPACE);
        check.same("in place", unit.narrow(2, 2, 60, false), true);
        check.same("its length", unit.told(2, 4), 60);
    }

    private void noByte() {
        check.sentence("length many (none)");
        CapUnit unit = unitAt(1000);
        check.same("narrow(2, 2, 0, true)", unit.narrow(2, 2, 0, true), true);
        check.register("0", unit, 2, 1, 1000,
                Check.told(Check.meta(4095, 15, Check.plain(40, 232))), 1000, 0, 4095, 15, 0);
        check.same("none of none", unit.narrow(2, 2, 0, true), true);
        check.same("one of none", unit.narrow(2, 2, 1, false), false);
    }

    private void lengthWithoutSign() {
        check.sentence("length (without sign)");
        CapUnit unit = unitAt(0);
        check.same("MIN is 2^31", unit.narrow(3, 1, Integer.MIN_VALUE, true), true);
        check.same("told so", unit.told(3, 4), SPACE / 2);
        check.same("-1 is 2^32 - 1", unit.narrow(3, 1, -1, false), true);
        check.same("rounded to all", unit.told(3, 4), SPACE);
        check.same("-1, exactly", unit.narrow(3, 1, -1, true), false);
        check.same("-2^28", unit.narrow(3, 1, -(1 << 28), true), true);
        check.same("is 15 of 2^28", unit.told(3, 4), 15L << 28);
        unit.root(4, 0, 60, 1);
        check.same("-1 is too long for 60", unit.narrow(5, 4, -1, false), false);
    }

    private void beyondTheSpace() {
        check.sentence("(as up to 2^32 if beyond)");
        CapUnit unit = unitAt(-16);
        check.same("just up to 2^32", unit.narrow(3, 2, 16, true), true);
        int upToEnd = Check.told(Check.meta(4095, 15, Check.plain(0, 240)));
        check.register("up to 2^32", unit, 3, 1, -16, upToEnd, SPACE - 16, 16, 4095, 15, 0);
        int[] beyond = {17, 63, 64, 4096, Integer.MAX_VALUE, Integer.MIN_VALUE, -1};
        for (int length : beyond) {
            // The bytes asked for are not in the bounds, so that there is no tag.
            check.same("beyond by " + length, unit.narrow(3, 2, length, false), false);
            check.register("as up to 2^32", unit, 3, 0, -16, upToEnd, SPACE - 16, 16, 4095, 15, 0);
        }
        CapUnit half = unitAt(Integer.MIN_VALUE);
        check.same("half and a byte", half.narrow(3, 2, Integer.MIN_VALUE + 1, false), false);
        check.same("half", half.told(3, 4), SPACE / 2);
    }

    private void freeBit() {
        check.sentence("REGISTER d becomes c with BOUNDS (and what else it has)");
        CapUnit unit = new CapUnit();
        unit.put(6, 0, 32768);
        unit.narrow(6, 6, 100, false);
        check.same("the free bit is kept", unit.told(6, 2), Check.told(Check.meta(0, 15, 32768 + Check.scaled(0, 40, 0))));
        unit.put(6, 0, 0);
        unit.narrow(6, 6, 8, false);
        check.same("exactness is not stored", unit.told(6, 2), Check.told(Check.meta(0, 15, Check.plain(8, 0))));
    }

    private void withoutTag() {
        check.sentence("no TAG unless c has one");
        CapUnit unit = unitAt(5);
        check.same("of NULL", unit.narrow(3, 0, 8, false), false);
        check.register("NULL narrowed", unit, 3, 0, 0, Check.told(Check.meta(0, 15, Check.plain(8, 0))), 0, 8, 0, 15, 0);
        unit.put(4, 5, (int) unit.told(2, 2));
        check.same("of one put", unit.narrow(3, 4, 8, false), false);
    }

    private void notOpen() {
        check.sentence("and is open");
        CapUnit unit = unitAt(5);
        check.same("gate", unit.gate(4, 1), true);
        check.same("of a gate", unit.narrow(5, 4, 8, false), false);
        check.register("gate narrowed", unit, 5, 0, 0,
                Check.told(Check.meta(4095, 14, Check.plain(8, 0))), 0, 8, 4095, 14, 0);
        check.same("seal", unit.seal(4, 1, 2), true);
        check.same("of a sealed one", unit.narrow(5, 4, 8, false), false);
        check.register("sealed one narrowed", unit, 5, 0, 0,
                Check.told(Check.meta(4095, 5, Check.plain(8, 0))), 0, 8, 4095, 5, 0);
    }

    private void fromBase() {
        check.sentence("these are in its BOUNDS (BASE)");
        CapUnit unit = new CapUnit();
        unit.root(1, 1000, 60, 3);
        check.same("from its base", unit.narrow(2, 1, 2, false), true);
        check.same("move before it", unit.move(3, 1, 999), true);
        check.same("a byte before", unit.narrow(4, 3, 2, false), false);
        check.same("its base nevertheless", unit.told(4, 3), 999);
        check.same("no byte, a byte before", unit.narrow(4, 3, 0, false), false);
    }

    private void upToTop() {
        check.sentence("these are in its BOUNDS (TOP)");
        CapUnit unit = new CapUnit();
        unit.root(1, 1000, 60, 3);
        check.same("as long", unit.narrow(2, 1, 60, true), true);
        check.same("a byte longer", unit.narrow(2, 1, 61, false), false);
        check.same("its length nevertheless", unit.told(2, 4), 61);
        check.same("move to its end", unit.move(3, 1, 1060), true);
        check.same("no byte at its end", unit.narrow(4, 3, 0, false), true);
        check.same("a byte at its end", unit.narrow(4, 3, 1, false), false);
        check.same("move past its end", unit.move(3, 1, 1061), true);
        check.same("no byte past its end", unit.narrow(4, 3, 0, false), false);
    }

    private void exactly() {
        check.sentence("and, if exactly, they are EXACT");
        CapUnit unit = unitAt(1000);
        check.same("104", unit.narrow(3, 2, 104, true), true);
        check.same("100, top rounded", unit.narrow(3, 2, 100, true), false);
        check.same("what it became", unit.told(3, 4), 104);
        CapUnit odd = unitAt(1001);
        check.same("103, base rounded", odd.narrow(3, 2, 103, true), false);
        check.same("what it became", odd.told(3, 3), 1000);
        check.same("63", odd.narrow(3, 2, 63, true), true);
        check.same("64", odd.narrow(3, 2, 64, true), false);
    }

    private void notExactly() {
        check.sentence("if exactly (else they need not be)");
        CapUnit unit = unitAt(1001);
        check.same("100", unit.narrow(3, 2, 100, false), true);
        check.register("rounded both ways", unit, 3, 1, 1001,
                Check.told(Check.meta(4095, 15, Check.scaled(0, 16, 232))), 1000, 104, 4095, 15, 1);
        check.same("63", unit.narrow(3, 2, 63, false), true);
    }

    private void registers() {
        check.sentence("IndexOutOfBoundsException if c or d is not 0 to 31");
        CapUnit unit = unitAt(5);
        for (int r : Check.noRegisters()) {
            check.noRegister("narrow(" + r + ", 1, ..)", () -> unit.narrow(r, 1, 8, false));
            check.noRegister("narrow(1, " + r + ", ..)", () -> unit.narrow(1, r, 8, false));
            check.noRegister("narrow(" + r + ", " + r + ", ..)", () -> unit.narrow(r, r, 8, false));
        }
        check.same("narrow(31, 1, ..)", unit.narrow(31, 1, 8, false), true);
        check.same("narrow(1, 31, ..)", unit.narrow(1, 31, 8, false), true);
        check.same("narrow(0, 1, ..)", unit.narrow(0, 1, 8, false), false);
    }
}
