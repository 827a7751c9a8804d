/** Promise 6. */
public final class KeepTest {
    private final Check check = new Check();

    public static void main(String[] args) {
        KeepTest test = new KeepTest();
        test.becomes();
        test.eachPerm();
        test.noneIsAdded();
        test.none();
        test.bitsAboveThePerms();
        test.withoutTag();
        test.notOpen();
        test.registers();
        test.check.end();
    }

    private void becomes() {
        check.sentence("REGISTER d becomes c with those of its PERMS that are in p too");
        CapUnit unit = new CapUnit();
        unit.root(1, 1000, 60, 0xF3C);
        check.same("keep(2, 1, 0x0FF)", unit.keep(2, 1, 0x0FF), true);
        check.register("kept", unit, 2, 1, 1000,
                Check.told(Check.meta(0x03C, 15, Check.plain(36, 232))), 1000, 60, 0x03C, 15, 0);
        check.same("the source stays", unit.told(1, 5), 0xF3C);
        check.same("all", unit.keep(2, 1, 4095), true);
        check.same("perms", unit.told(2, 5), 0xF3C);
        check.same("in place", unit.keep(1, 1, 4), true);
        check.same("perms", unit.told(1, 5), 4);
    }

    private void eachPerm() {
        check.sentence("those of its PERMS that are in p too (one)");
        CapUnit unit = new CapUnit();
        unit.root(1, 1000, 60, 4095);
        for (int perm = 0; perm < 12; perm++) {
            check.same("perm " + perm, unit.keep(2, 1, 1 << perm), true);
            check.same("told", unit.told(2, 5), 1 << perm);
        }
    }

    private void noneIsAdded() {
        check.sentence("those of its PERMS (no others)");
        CapUnit unit = new CapUnit();
        unit.root(1, 1000, 60, 0x03C);
        check.same("keep(2, 1, -1)", unit.keep(2, 1, -1), true);
        check.same("perms", unit.told(2, 5), 0x03C);
        check.same("keep(2, 1, 0xFC3)", unit.keep(2, 1, 0xFC3), true);
        check.same("perms", unit.told(2, 5), 0);
    }

    private void none() {
        check.sentence("those of its PERMS that are in p too (none)");
        CapUnit unit = new CapUnit();
        unit.root(1, 1000, 60, 4095);
        check.same("keep(2, 1, 0)", unit.keep(2, 1, 0), true);
        check.register("nothing kept", unit, 2, 1, 1000,
                Check.told(Check.meta(0, 15, Check.plain(36, 232))), 1000, 60, 0, 15, 0);
    }

    private void bitsAboveThePerms() {
        check.sentence("that are in p too (p above the PERMS)");
        CapUnit unit = new CapUnit();
        unit.root(1, 1000, 60, 4095);
        int[] above = {0xFFFFF000, 4096, Integer.MIN_VALUE};
        for (int p : above) {
            check.same("keep(2, 1, " + p + ")", unit.keep(2, 1, p), true);
            check.register("nothing kept, nothing else lost", unit, 2, 1, 1000,
                    Check.told(Check.meta(0, 15, Check.plain(36, 232))), 1000, 60, 0, 15, 0);
        }
    }

    private void withoutTag() {
        check.sentence("REGISTER d becomes c (that has no TAG)");
        CapUnit unit = new CapUnit();
        unit.put(1, 3, Check.told(Check.meta(7, 15, 32768)));
        check.same("without tag", unit.keep(2, 1, 6), false);
        check.register("without tag", unit, 2, 0, 3, Check.told(Check.meta(6, 15, 32768)));
    }

    private void notOpen() {
        check.sentence("no TAG if it is not open");
        CapUnit unit = new CapUnit();
        unit.root(3, 5, 40, 4095);
        check.same("gate", unit.gate(4, 3), true);
        check.same("a gate, all perms", unit.keep(4, 4, -1), false);
        check.same("type", unit.told(4, 6), 14);
        check.same("perms", unit.told(4, 5), 4095);
        check.same("seal", unit.seal(6, 3, 3), true);
        check.same("a sealed one", unit.keep(7, 6, 3), false);
        check.same("type", unit.told(7, 6), 5);
        check.same("perms", unit.told(7, 5), 3);
    }

    private void registers() {
        check.sentence("Likewise (IndexOutOfBoundsException if c or d is not 0 to 31)");
        CapUnit unit = new CapUnit();
        unit.root(1, 5, 40, 4095);
        for (int r : Check.noRegisters()) {
            check.noRegister("keep(" + r + ", 1, 1)", () -> unit.keep(r, 1, 1));
            check.noRegister("keep(1, " + r + ", 1)", () -> unit.keep(1, r, 1));
            check.noRegister("keep(" + r + ", " + r + ", 1)", () -> unit.keep(r, r, 1));
        }
        check.same("keep(31, 1, 1)", unit.keep(31, 1, 1), true);
        check.same("keep(1, 31, 1)", unit.keep(1, 31, 1), true);
        check.same("keep(0, 1, 1)", unit.keep(0, 1, 1), false);
    }
}
