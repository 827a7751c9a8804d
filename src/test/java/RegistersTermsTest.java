/** Terms: the registers, and the one that always holds NULL. */
public final class RegistersTermsTest {
    private final Check check = new Check();

    public static void main(String[] args) {
        RegistersTermsTest test = new RegistersTermsTest();
        test.allHold();
        test.atFirstNull();
        test.nothingStaysInZero();
        test.zeroAnswersFalse();
        test.zeroFromZero();
        test.zeroThrowsAsOthers();
        test.check.end();
    }

    private void allHold() {
        check.sentence("REGISTERS 0 to 31 hold CAPABILITIES");
        CapUnit unit = new CapUnit();
        for (int r = 1; r < 32; r++) {
            unit.put(r, 100 + r, Check.told(Check.meta(r, 15, Check.plain(0, 0))));
        }
        for (int r = 1; r < 32; r++) {
            check.register("each its own", unit, r, 0, 100 + r, Check.told(Check.meta(r, 15, 0)));
        }
    }

    private void atFirstNull() {
        check.sentence("at first NULL");
        CapUnit unit = new CapUnit();
        for (int r = 0; r < 32; r++) {
            check.isNull("at first", unit, r);
        }
    }

    /** In 1 all with all perms, at 3; in 2 a short one, in 3 that sealed. */
    private static CapUnit prepared() {
        CapUnit unit = new CapUnit();
        unit.root(1, 0, Check.SPACE, 4095);
        unit.move(1, 1, 3);
        unit.root(2, 1000, 60, 4095);
        unit.seal(3, 2, 1);
        return unit;
    }

    /** Each call that makes a capability; all have a tag but that of put. */
    private static boolean make(CapUnit unit, int call, int d) {
        switch (call) {
            case 0: return unit.narrow(d, 2, 5, true);
            case 1: return unit.move(d, 2, 1001);
            case 2: return unit.keep(d, 2, 1);
            case 3: return unit.seal(d, 2, 1);
            case 4: return unit.unseal(d, 3, 1);
            case 5: return unit.gate(d, 2);
            case 6: return unit.build(d, 1, 2);
            default: unit.put(d, 5, 6);
        }
        return false;
    }

    private void nothingStaysInZero() {
        check.sentence("0 always does (what it becomes goes)");
        for (int call = 0; call < 8; call++) {
            CapUnit unit = prepared();
            make(unit, call, 0);
            check.isNull("after call " + call, unit, 0);
        }
        CapUnit unit = prepared();
        check.noRegister("root to 0", () -> unit.root(0, 5, 6, 7));
        check.isNull("after root", unit, 0);
    }

    private void zeroAnswersFalse() {
        check.sentence("whether it has a TAG is answered false");
        for (int call = 0; call < 7; call++) {
            check.same("call " + call + " to 4", make(prepared(), call, 4), true);
            check.same("call " + call + " to 0", make(prepared(), call, 0), false);
        }
    }

    private void zeroFromZero() {
        check.sentence("0 always does, also where calls take it");
        CapUnit unit = prepared();
        make(unit, 1, 0);
        check.same("move from it", unit.move(4, 0, 9), false);
        check.register("a number", unit, 4, 0, 9, 0, 0, Check.SPACE, 0, 15, 9);
        check.same("built by all", unit.build(4, 1, 0), true);
        check.register("built", unit, 4, 1, 0, 0, 0, Check.SPACE, 0, 15, 0);
        check.same("built by it", unit.build(4, 0, 0), false);
        check.same("sealed by it", unit.seal(4, 2, 0), false);
        check.same("unsealed by it", unit.unseal(4, 3, 0), false);
        check.same("into itself", unit.narrow(0, 0, 0, false), false);
        check.isNull("into itself", unit, 0);
    }

    private void zeroThrowsAsOthers() {
        check.sentence("IndexOutOfBoundsException, also where what comes would go to 0");
        CapUnit unit = prepared();
        for (int r : Check.noRegisters()) {
            check.noRegister("narrow(0, " + r + ", ..)", () -> unit.narrow(0, r, 1, false));
            check.noRegister("move(0, " + r + ", ..)", () -> unit.move(0, r, 1));
            check.noRegister("keep(0, " + r + ", ..)", () -> unit.keep(0, r, 1));
            check.noRegister("seal(0, " + r + ", 1)", () -> unit.seal(0, r, 1));
            check.noRegister("seal(0, 1, " + r + ")", () -> unit.seal(0, 1, r));
            check.noRegister("unseal(0, " + r + ", 1)", () -> unit.unseal(0, r, 1));
            check.noRegister("unseal(0, 1, " + r + ")", () -> unit.unseal(0, 1, r));
            check.noRegister("gate(0, " + r + ")", () -> unit.gate(0, r));
            check.noRegister("build(0, " + r + ", 1)", () -> unit.build(0, r, 1));
            check.noRegister("build(0, 1, " + r + ")", () -> unit.build(0, 1, r));
        }
    }
}
