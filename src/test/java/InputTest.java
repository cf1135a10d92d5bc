/** Promise 7. */
public final class InputTest {
    public static void main(String[] args) {
        Check check = new Check();
        answersWhetherItWasOn(check);
        staysOverScans(check);
        staysWhenHalted(check);
        inputIsFromZeroToSeven(check);
        aRefusedCallChangesNothing(check);
        check.end("InputTest");
    }

    private static void answersWhetherItWasOn(Check check) {
        ScanForge x = new ScanForge();
        for (int i = 0; i < 8; i++) {
            check.same("first " + i, x.input(i, true), false);
            check.same("again " + i, x.input(i, true), true);
            check.same("bit " + i, x.bit(i), true);
            check.same("how many " + i, x.count(2), i + 1);
        }
        for (int i = 0; i < 8; i++) {
            check.same("off " + i, x.input(i, false), true);
            check.same("off again " + i, x.input(i, false), false);
            check.same("bit off " + i, x.bit(i), false);
        }
    }

    private static void staysOverScans(Check check) {
        ScanForge x = new ScanForge();
        x.input(2, true);
        x.scan(5);
        check.same("stays over scans", x.bit(2), true);
    }

    private static void staysWhenHalted(Check check) {
        ScanForge x = Rig.withBlock(Rig.DIV, 0, 1, 2, 0);
        x.input(7, true);
        Rig.halts(x);
        check.same("input 0 stays", x.bit(0), true);
        check.same("input 7 stays", x.bit(7), true);
        check.same("may change while halted", x.input(0, false), true);
        check.same("is off", x.bit(0), false);
    }

    // "input ... throws IndexOutOfBoundsException", and "0 to 7 are INPUTS"
    private static void inputIsFromZeroToSeven(Check check) {
        ScanForge x = new ScanForge();
        Edges.places(check, "input on", 0, 7, i -> x.input(i, true));
        Edges.places(check, "input off", 0, 7, i -> x.input(i, false));
        for (int i = 8; i < 24; i++) {
            int bit = i;
            check.raises("bit " + i + " is no input", Check.BAD_PLACE, () -> x.input(bit, true));
        }
    }

    private static void aRefusedCallChangesNothing(Check check) {
        ScanForge x = new ScanForge();
        for (int i : new int[] {-1, 8, 23, 24}) {
            check.raises("input " + i, Check.BAD_PLACE, () -> x.input(i, true));
        }
        check.same("no bit is on", x.count(2), 0);
    }
}
