/** Promise 9: how many SCANS are done, their order, and what halts them. */
public final class ScanTest {
    public static void main(String[] args) {
        Check check = new Check();
        answersHowManyWereDone(check);
        theScanEndsAtTheFault(check);
        aHaltedControllerDoesNotScan(check);
        edgesWaitThroughAHalt(check);
        rungsComeInOrder(check);
        nIsFromOneTo50(check);
        wrongNumbersComeBeforeHalted(check);
        noScanIsDoneForAWrongNumber(check);
        aFaultHaltsTheScansThatAreLeft(check);
        aFaultOfTheFirstScanHalts(check);
        aFaultOfTheLastScanHalts(check);
        aFaultOfTheNextScanIsNotSeenBefore(check);
        check.end("ScanTest");
    }

    private static void answersHowManyWereDone(Check check) {
        ScanForge x = new ScanForge();
        check.same("one", x.scan(1), 1);
        check.same("fifty more", x.scan(50), 51);
        check.same("seven more", x.scan(7), 58);
        check.same("count", x.count(0), 58);
    }

    private static void theScanEndsAtTheFault(Check check) {
        ScanForge x = new ScanForge();
        for (int row = 0; row < 3; row++) {
            Rig.wires(x, 2, row);
            Rig.wires(x, 1, row);
            Rig.wires(x, 3, row);
        }
        x.coil(1, 2, Rig.SET, 16);
        x.coil(2, 0, Rig.SET, 17);
        x.coil(2, 1, Rig.BLOCK, 6);
        x.coil(2, 2, Rig.SET, 18);
        x.coil(3, 0, Rig.SET, 19);
        x.block(6, Rig.DIV, 0, 1, 2, 0);
        check.same("halts", Rig.halts(x), true);
        check.same("rung before", x.bit(16), true);
        check.same("row before", x.bit(17), true);
        check.same("row behind", x.bit(18), false);
        check.same("rung behind", x.bit(19), false);
        check.same("its rung was looked at", x.power(2, 2, 3), true);
        check.same("rung behind was not looked at", x.power(3, 0, -1), false);
    }

    private static void aHaltedControllerDoesNotScan(Check check) {
        ScanForge x = Rig.withBlock(Rig.DIV, 0, 1, 2, 0);
        check.same("halts", Rig.halts(x), true);
        for (int i = 0; i < 3; i++) {
            check.raises("halted", Check.HALTED, () -> x.scan(1));
            check.raises("halted, many", Check.HALTED, () -> x.scan(50));
        }
        check.same("one scan in all", x.count(0), 1);
        check.same("one run in all", x.told(0, 3), 1);
        check.same("one fault in all", x.count(3), 1);
    }

    private static void edgesWaitThroughAHalt(Check check) {
        ScanForge x = new ScanForge();
        Rig.row(x, 0, 0, Rig.CONTACT, 0);
        x.coil(0, 0, Rig.BLOCK, 0);
        x.block(0, Rig.DIV, 0, 1, 2, 0);
        x.cell(1, 0, 0, Rig.RISE, 1);
        x.cell(1, 1, 0, Rig.FALL, 2);
        x.input(2, true);
        x.scan(1);
        x.input(0, true);
        x.input(1, true);
        x.input(2, false);
        check.same("halts before rung 1", Rig.halts(x), true);
        check.same("not looked at", x.power(1, 0, 0), false);
        x.resume();
        x.input(0, false);
        x.scan(1);
        check.same("rise since it was looked at", x.power(1, 0, 0), true);
        check.same("fall since it was looked at", x.power(1, 1, 0), true);
    }

    private static void rungsComeInOrder(Check check) {
        ScanForge x = new ScanForge();
        for (int g = 0; g < 5; g++) {
            Rig.row(x, g, 0, Rig.CONTACT, g == 0 ? 0 : 15 + g);
            x.coil(g, 0, Rig.OUT, 16 + g);
        }
        x.input(0, true);
        x.scan(1);
        for (int g = 0; g < 5; g++) {
            check.same("chain " + g, x.bit(16 + g), true);
        }
        ScanForge y = new ScanForge();
        for (int g = 0; g < 5; g++) {
            Rig.row(y, g, 0, Rig.CONTACT, g == 4 ? 0 : 17 + g);
            y.coil(g, 0, Rig.OUT, 16 + g);
        }
        y.input(0, true);
        for (int scans = 1; scans <= 5; scans++) {
            y.scan(1);
            check.same("chain upward " + scans, y.count(2), 1 + scans);
        }
    }

    // "n (1 to 50) SCANS ... IllegalArgumentException for another n"
    private static void nIsFromOneTo50(Check check) {
        ScanForge x = new ScanForge();
        Edges.numbers(check, "n", 1, 50, n -> x.scan(n));
        check.same("1 + 2 + ... + 50 in all", x.count(0), 1275);
    }

    private static void wrongNumbersComeBeforeHalted(Check check) {
        ScanForge x = Rig.withBlock(Rig.DIV, 0, 1, 2, 0);
        check.same("halts", Rig.halts(x), true);
        for (int n : new int[] {0, -1, 51, Integer.MIN_VALUE, Integer.MAX_VALUE}) {
            check.raises("halted, n " + n, Check.BAD_NUMBER, () -> x.scan(n));
        }
        check.raises("halted, n 1", Check.HALTED, () -> x.scan(1));
        check.raises("halted, n 50", Check.HALTED, () -> x.scan(50));
    }

    private static void noScanIsDoneForAWrongNumber(Check check) {
        ScanForge x = Rig.withBlock(Rig.DELAY, 0, 0, 8, 1);
        for (int n : new int[] {0, -1, 51, Integer.MIN_VALUE, Integer.MAX_VALUE}) {
            check.raises("n " + n, Check.BAD_NUMBER, () -> x.scan(n));
        }
        check.same("none done", x.count(0), 0);
        check.same("nothing run", x.told(0, 3), 0);
        check.same("nothing on", x.bit(8), false);
        check.same("next", x.scan(1), 1);
    }

    // "ArithmeticException if a FAULT halts it (that SCAN counts)"
    private static void aFaultHaltsTheScansThatAreLeft(Check check) {
        ScanForge x = Rig.withBlock(Rig.MUL, 0, 1, 0, 0);
        x.set(0, 1);
        x.set(1, 10);
        check.raises("the 13th product is beyond", Check.FAULT, () -> x.scan(50));
        check.same("that scan counts", x.count(0), 13);
        check.same("register stays", x.register(0), 1e12);
        check.same("halted", x.count(1), 1);
        check.same("runs", x.told(0, 3), 13);
        check.same("faults", x.count(3), 1);
    }

    /** Register 1 counts down by 1 a scan; a division by it is a fault when it is 0. */
    private static ScanForge faultAtScan(int which) {
        ScanForge x = Rig.withBlock(Rig.SUB, 1, 2, 1, 0);
        x.set(1, which);
        x.set(2, 1);
        Rig.wires(x, 1, 0);
        x.coil(1, 0, Rig.BLOCK, 1);
        x.block(1, Rig.DIV, 2, 1, 3, 0);
        return x;
    }

    private static void aFaultOfTheFirstScanHalts(Check check) {
        ScanForge x = faultAtScan(1);
        check.raises("first of 50", Check.FAULT, () -> x.scan(50));
        check.same("that scan counts, no other", x.count(0), 1);
        ScanForge y = faultAtScan(1);
        check.raises("the only one", Check.FAULT, () -> y.scan(1));
        check.same("that scan counts", y.count(0), 1);
        y.resume();
        check.same("the next one", y.scan(1), 2);
    }

    private static void aFaultOfTheLastScanHalts(Check check) {
        ScanForge x = faultAtScan(50);
        check.raises("last of 50", Check.FAULT, () -> x.scan(50));
        check.same("all count", x.count(0), 50);
        check.same("halted", x.count(1), 1);
        check.same("49 were sound", x.told(1, 3) - x.told(1, 4), 49);
    }

    private static void aFaultOfTheNextScanIsNotSeenBefore(Check check) {
        ScanForge x = faultAtScan(51);
        check.same("50 are sound", x.scan(50), 50);
        check.same("not halted", x.count(1), 0);
        check.raises("the 51st", Check.FAULT, () -> x.scan(50));
        check.same("51 in all", x.count(0), 51);
    }
}
