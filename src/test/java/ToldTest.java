/** Promise 12. */
public final class ToldTest {
    public static void main(String[] args) {
        Check check = new Check();
        CapUnit unit = new CapUnit();
        unit.root(1, -256, 256, 2048);
        unit.move(1, 1, -1);
        int bounds = unit.pack(-256, 256) & 32767;
        check.register("below 0", unit, 1, 1, -1, Check.told(Check.meta(2048, 15, bounds)),
                Check.SPACE - 256, 256, 2048, 15, 255);
        check.same("meta is below 0", unit.told(1, 2) < 0, true);
        unit.root(2, 1000, 60, 1);
        unit.move(2, 2, 990);
        check.same("address below base", unit.told(2, 7), -10);
        unit.put(3, 0, Check.told(Check.meta(1, 9, 16384 + 3 * 256 + 184 + 1)));
        check.register("top below base", unit, 3, 0, 0, Check.told(Check.meta(1, 9, 16384 + 3 * 256 + 184 + 1)),
                56L << 25, -(56L << 25), 1, 9, -(56L << 25));
        unit.put(31, -1, Check.told(1017));
        check.register("top above 2^32", unit, 31, 0, -1, Check.told(1017), Check.SPACE - 7, 10, 0, 0, 6);
        wrongInputs(check, unit);
        check.end();
    }

    private static void wrongInputs(Check check, CapUnit unit) {
        int[] none = {-1, 32, Integer.MIN_VALUE, Integer.MAX_VALUE};
        for (int r : none) {
            check.noRegister("told(" + r + ", 0)", () -> unit.told(r, 0));
            check.noRegister("told(" + r + ", 8)", () -> unit.told(r, 8));
        }
        int[] nothing = {-1, 8, Integer.MIN_VALUE, Integer.MAX_VALUE};
        for (int what : nothing) {
            check.noArgument("told(1, " + what + ")", () -> unit.told(1, what));
            check.noArgument("told(0, " + what + ")", () -> unit.told(0, what));
        }
    }
}
