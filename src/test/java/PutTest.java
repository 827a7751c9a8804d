/** Promise 3. */
public final class PutTest {
    public static void main(String[] args) {
        Check check = new Check();
        CapUnit unit = new CapUnit();
        unit.root(5, 0, 16, 1);
        unit.put(5, -7, 0);
        check.register("NULL's meta", unit, 5, 0, -7, 0, 0, Check.SPACE, 0, 15, Check.SPACE - 7);
        unit.put(5, 1000, Check.told(Check.meta(5, 3, 36 * 256 + 232)));
        check.register("a sealed one", unit, 5, 0, 1000,
                Check.told(Check.meta(5, 3, 36 * 256 + 232)), 1000, 60, 5, 3, 0);
        unit.put(31, 0, -1);
        check.same("meta -1", unit.told(31, 2), -1);
        check.same("its perms", unit.told(31, 5), 4095);
        check.same("its type", unit.told(31, 6), 0);
        unit.put(31, 0, 32768);
        check.same("the free bit is kept", unit.told(31, 2), 32768);
        check.same("the free bit is none of the bounds", unit.told(31, 4), Check.SPACE);
        unit.put(0, 77, -1);
        check.isNull("put to 0", unit, 0);
        int[] none = {-1, 32, Integer.MIN_VALUE, Integer.MAX_VALUE};
        for (int d : none) {
            check.noRegister("put(" + d + ", ..)", () -> unit.put(d, 1, 1));
        }
        check.end();
    }
}
