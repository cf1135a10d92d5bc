/** Promise 7. */
public final class InputTest {
    public static void main(String[] args) {
        Check check = new Check();
        ScanForge x = new ScanForge();
        for (int i = 0; i < 8; i++) {
            check.same("first " + i, x.input(i, true), false);
            check.same("again " + i, x.input(i, true), true);
            check.same("bit " + i, x.bit(i), true);
            check.same("how many " + i, x.count(2), i + 1);
        }
        for (int i = 0; i < 8; i++) {
            check.same("off " + i, x.input(i, false), true);
            check.same("off again " + i, x.input(i, false), false);
            check.same("bit off " + i, x.bit(i), false);
        }
        x.input(2, true);
        x.scan(5);
        check.same("stays over scans", x.bit(2), true);
        for (int i : new int[] {-1, 8, 23, Integer.MIN_VALUE, Integer.MAX_VALUE}) {
            check.raises("input " + i, Check.BAD_PLACE, () -> x.input(i, true));
        }
        staysWhenHalted(check);
        check.end("InputTest");
    }

    private static void staysWhenHalted(Check check) {
        ScanForge x = Rig.withBlock(Rig.DIV, 0, 1, 2, 0);
        Rig.halts(x);
        check.same("input 0 stays", x.bit(0), true);
        check.same("may change while halted", x.input(0, false), true);
    }
}
