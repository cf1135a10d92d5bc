/** Promise 9: how many SCANS are done, their order, and what halts them. */
public final class ScanTest {
    public static void main(String[] args) {
        Check check = new Check();
        answersHowManyWereDone(check);
        wrongNumbers(check);
        aFaultHalts(check);
        theScanEndsAtTheFault(check);
        onlyOutputsGoOff(check);
        aHaltedControllerDoesNotScan(check);
        edgesWaitThroughAHalt(check);
        rungsComeInOrder(check);
        check.end("ScanTest");
    }

    private static void answersHowManyWereDone(Check check) {
        ScanForge x = new ScanForge();
        check.same("one", x.scan(1), 1);
        check.same("fifty more", x.scan(50), 51);
        check.same("seven more", x.scan(7), 58);
        check.same("count", x.count(0), 58);
    }

    private static void wrongNumbers(Check check) {
        ScanForge x = Rig.withBlock(Rig.DIV, 0, 1, 2, 0);
        int[] wrong = {0, -1, 51, Integer.MIN_VALUE, Integer.MAX_VALUE};
        for (int n : wrong) {
            check.raises("scan " + n, Check.BAD_NUMBER, () -> x.scan(n));
        }
        check.same("none done", x.count(0), 0);
        check.same("halts", Rig.halts(x), true);
        for (int n : wrong) {
            check.raises("halted scan " + n, Check.BAD_NUMBER, () -> x.scan(n));
        }
    }

    private static void aFaultHalts(Check check) {
        ScanForge x = Rig.withBlock(Rig.MUL, 0, 1, 0, 0);
        x.set(0, 1);
        x.set(1, 10);
        check.raises("the 13th product is beyond", Check.FAULT, () -> x.scan(50));
        check.same("that scan counts", x.count(0), 13);
        check.same("register stays", x.register(0), 1e12);
        check.same("halted", x.count(1), 1);
        check.same("runs", x.told(0, 3), 13);
        check.same("faults", x.count(3), 1);
    }

    private static void theScanEndsAtTheFault(Check check) {
        ScanForge x = new ScanForge();
        for (int row = 0; row < 3; row++) {
            Rig.wires(x, 2, row);
            Rig.wires(x, 1, row);
            Rig.wires(x, 3, row);
        }
        x.coil(1, 2, Rig.SET, 16);
        x.coil(2, 0, Rig.SET, 17);
        x.coil(2, 1, Rig.BLOCK, 6);
        x.coil(2, 2, Rig.SET, 18);
        x.coil(3, 0, Rig.SET, 19);
        x.block(6, Rig.DIV, 0, 1, 2, 0);
        check.same("halts", Rig.halts(x), true);
        check.same("rung before", x.bit(16), true);
        check.same("row before", x.bit(17), true);
        check.same("row behind", x.bit(18), false);
        check.same("rung behind", x.bit(19), false);
        check.same("its rung was looked at", x.power(2, 2, 3), true);
        check.same("rung behind was not looked at", x.power(3, 0, -1), false);
    }

    private static void onlyOutputsGoOff(Check check) {
        ScanForge x = new ScanForge();
        for (int i = 0; i < 8; i++) {
            x.input(i, true);
        }
        for (int bit = 8; bit < 24; bit++) {
            Rig.wires(x, 4, 0);
            x.coil(4, 0, Rig.SET, bit);
            x.scan(1);
        }
        check.same("all on", x.count(2), 24);
        Rig.wires(x, 0, 0);
        x.coil(0, 0, Rig.BLOCK, 0);
        x.block(0, Rig.DIV, 0, 1, 2, 0);
        check.same("halts", Rig.halts(x), true);
        for (int i = 0; i < 24; i++) {
            check.same("bit " + i, x.bit(i), i < 8 || i > 15);
        }
    }

    private static void aHaltedControllerDoesNotScan(Check check) {
        ScanForge x = Rig.withBlock(Rig.DIV, 0, 1, 2, 0);
        check.same("halts", Rig.halts(x), true);
        for (int i = 0; i < 3; i++) {
            check.raises("halted", Check.HALTED, () -> x.scan(1));
            check.raises("halted, many", Check.HALTED, () -> x.scan(50));
        }
        check.same("one scan in all", x.count(0), 1);
        check.same("one run in all", x.told(0, 3), 1);
        check.same("one fault in all", x.count(3), 1);
    }

    private static void edgesWaitThroughAHalt(Check check) {
        ScanForge x = new ScanForge();
        Rig.row(x, 0, 0, Rig.CONTACT, 0);
        x.coil(0, 0, Rig.BLOCK, 0);
        x.block(0, Rig.DIV, 0, 1, 2, 0);
        x.cell(1, 0, 0, Rig.RISE, 1);
        x.cell(1, 1, 0, Rig.FALL, 2);
        x.input(2, true);
        x.scan(1);
        x.input(0, true);
        x.input(1, true);
        x.input(2, false);
        check.same("halts before rung 1", Rig.halts(x), true);
        check.same("not looked at", x.power(1, 0, 0), false);
        x.resume();
        x.input(0, false);
        x.scan(1);
        check.same("rise since it was looked at", x.power(1, 0, 0), true);
        check.same("fall since it was looked at", x.power(1, 1, 0), true);
    }

    private static void rungsComeInOrder(Check check) {
        ScanForge x = new ScanForge();
        for (int g = 0; g < 5; g++) {
            Rig.row(x, g, 0, Rig.CONTACT, g == 0 ? 0 : 15 + g);
            x.coil(g, 0, Rig.OUT, 16 + g);
        }
        x.input(0, true);
        x.scan(1);
        for (int g = 0; g < 5; g++) {
            check.same("chain " + g, x.bit(16 + g), true);
        }
        ScanForge y = new ScanForge();
        for (int g = 0; g < 5; g++) {
            Rig.row(y, g, 0, Rig.CONTACT, g == 4 ? 0 : 17 + g);
            y.coil(g, 0, Rig.OUT, 16 + g);
        }
        y.input(0, true);
        for (int scans = 1; scans <= 5; scans++) {
            y.scan(1);
            check.same("chain upward " + scans, y.count(2), 1 + scans);
        }
    }
}
