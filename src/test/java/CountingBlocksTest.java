/** Promise 9: the BLOCKS with a BIT of their own: nothing, DELAY, COUNTER and REACH. */
public final class CountingBlocksTest {
    public static void main(String[] args) {
        Check check = new Check();
        nothingIsDone(check);
        delayFallsBack(check);
        delayCountsEachRun(check);
        counterCountsRises(check);
        counterIsReset(check);
        counterRemembersPowerWhileReset(check);
        counterSeesNoBitButItsReset(check);
        aBitStaysWhenTheBlockChanges(check);
        delayCountsUp(check);
        delayOfOneIsDoneAtOnce(check);
        delayOf1000(check);
        counterCountsItsFirstRun(check);
        counterToOne(check);
        counterTo1000(check);
        counterStopsAtItsEnd(check);
        counterSeesTheRunBeforeInTheSameScan(check);
        counterIsResetOnlyWhenRun(check);
        counterGoesOnBehindAReset(check);
        reachCompares(check);
        reachIsOffForEqualRegisters(check);
        reachSeesTheLeastDifference(check);
        reachStaysWithoutPower(check);
        firstAndLastBitsAreTheirs(check);
        check.end("CountingBlocksTest");
    }

    private static void nothingIsDone(Check check) {
        ScanForge x = Rig.withBlock(0, 0, 0, 0, 0);
        x.set(0, 3);
        x.scan(4);
        check.same("bits", x.count(2), 1);
        check.same("register", x.register(0), 3.0);
        check.same("runs", x.told(0, 3), 4);
        check.same("counted", x.told(0, 1), 0);
    }

    private static void delayFallsBack(Check check) {
        ScanForge x = Rig.withBlock(Rig.DELAY, 0, 0, 8, 3);
        x.scan(2);
        x.input(0, false);
        x.scan(1);
        check.same("back to 0", x.told(0, 1), 0);
        x.input(0, true);
        x.scan(2);
        check.same("from the beginning", x.bit(8), false);
        x.scan(1);
        check.same("at its end", x.bit(8), true);
        x.input(0, false);
        x.scan(1);
        check.same("off without power", x.bit(8), false);
    }

    private static void delayCountsEachRun(Check check) {
        ScanForge x = Rig.withBlock(Rig.DELAY, 0, 0, 8, 9);
        Rig.wires(x, 4, 1);
        x.coil(4, 1, Rig.BLOCK, 0);
        x.scan(2);
        check.same("two runs a scan", x.told(0, 1), 4);
        check.same("runs", x.told(0, 3), 4);
    }

    private static void counterCountsRises(Check check) {
        ScanForge x = Rig.withBlock(Rig.COUNTER, 0, 0, 16, 3);
        boolean[] inputs = {true, true, false, false, true, false, true, true};
        int[] counted = {1, 1, 1, 1, 2, 2, 3, 3};
        for (int i = 0; i < inputs.length; i++) {
            x.input(0, inputs[i]);
            x.scan(1);
            check.same("counted " + i, x.told(0, 1), counted[i]);
            check.same("bit " + i, x.bit(16), counted[i] == 3);
        }
    }

    private static ScanForge withReset() {
        ScanForge x = new ScanForge();
        Rig.row(x, 0, 0, Rig.CONTACT, 1);
        x.coil(0, 0, Rig.OUT, 22);
        Rig.row(x, 1, 0, Rig.CONTACT, 0);
        x.coil(1, 0, Rig.BLOCK, 5);
        x.block(5, Rig.COUNTER, 0, 0, 8, 1);
        return x;
    }

    private static void counterIsReset(Check check) {
        ScanForge x = withReset();
        x.input(0, true);
        x.scan(1);
        check.same("counted", x.bit(8), true);
        x.input(0, false);
        x.input(1, true);
        x.scan(1);
        check.same("0 without power", x.told(5, 1), 0);
        check.same("bit off", x.bit(8), false);
        x.input(0, true);
        x.scan(1);
        check.same("does not count", x.told(5, 1), 0);
        check.same("bit stays off", x.bit(8), false);
    }

    private static void counterRemembersPowerWhileReset(Check check) {
        ScanForge x = withReset();
        x.input(0, true);
        x.input(1, true);
        x.scan(1);
        x.input(1, false);
        x.scan(1);
        check.same("the run before had power", x.told(5, 1), 0);
        x.input(0, false);
        x.scan(1);
        x.input(0, true);
        x.scan(1);
        check.same("a new rise", x.told(5, 1), 1);
    }

    private static void counterSeesNoBitButItsReset(Check check) {
        ScanForge x = Rig.withBlock(Rig.COUNTER, 0, 0, 8, 1);
        Rig.wires(x, 1, 0);
        x.coil(1, 0, Rig.SET, 21);
        Rig.wires(x, 1, 1);
        x.coil(1, 1, Rig.SET, 23);
        x.scan(3);
        check.same("counted", x.told(0, 1), 1);
        ScanForge y = Rig.withBlock(Rig.DELAY, 0, 0, 8, 5);
        Rig.wires(y, 1, 0);
        y.coil(1, 0, Rig.SET, 22);
        y.scan(3);
        check.same("no delay is reset", y.told(0, 1), 3);
    }

    private static void aBitStaysWhenTheBlockChanges(Check check) {
        ScanForge x = Rig.withBlock(Rig.DELAY, 0, 0, 8, 1);
        x.scan(1);
        x.block(0, Rig.DELAY, 0, 0, 9, 1);
        check.same("not run yet", x.bit(8), true);
        x.scan(1);
        check.same("old bit", x.bit(8), true);
        check.same("new bit", x.bit(9), true);
    }

    // "with POWER it counts up to n ... its BIT is on if it has counted n"
    private static void delayCountsUp(Check check) {
        ScanForge x = Rig.withBlock(Rig.DELAY, 0, 0, 21, 3);
        for (int i = 1; i <= 6; i++) {
            x.scan(1);
            check.same("counted " + i, x.told(0, 1), Math.min(i, 3));
            check.same("bit " + i, x.bit(21), i >= 3);
        }
    }

    private static void delayOfOneIsDoneAtOnce(Check check) {
        ScanForge x = Rig.withBlock(Rig.DELAY, 0, 0, 8, 1);
        x.scan(1);
        check.same("on", x.bit(8), true);
        x.scan(1);
        check.same("no further", x.told(0, 1), 1);
        x.input(0, false);
        x.scan(1);
        check.same("off without power", x.bit(8), false);
        check.same("0 without power", x.told(0, 1), 0);
    }

    private static void delayOf1000(Check check) {
        ScanForge x = Rig.withBlock(Rig.DELAY, 0, 0, 8, 1000);
        for (int i = 0; i < 19; i++) {
            x.scan(50);
        }
        x.scan(49);
        check.same("counted 999", x.told(0, 1), 999);
        check.same("off at 999", x.bit(8), false);
        x.scan(1);
        check.same("counted 1000", x.told(0, 1), 1000);
        check.same("on at 1000", x.bit(8), true);
        x.scan(50);
        check.same("no further", x.told(0, 1), 1000);
        check.same("still on", x.bit(8), true);
    }

    // "it counts each RUN with POWER that had none in the RUN before"
    private static void counterCountsItsFirstRun(Check check) {
        ScanForge x = Rig.withBlock(Rig.COUNTER, 0, 0, 8, 9);
        x.scan(1);
        check.same("the first run counts", x.told(0, 1), 1);
        x.scan(5);
        check.same("no rise, no count", x.told(0, 1), 1);
        ScanForge y = Rig.withBlock(Rig.COUNTER, 0, 0, 8, 9);
        y.input(0, false);
        y.scan(1);
        check.same("not without power", y.told(0, 1), 0);
    }

    private static void counterToOne(Check check) {
        ScanForge x = Rig.withBlock(Rig.COUNTER, 0, 0, 21, 1);
        x.input(0, false);
        x.scan(1);
        check.same("off at 0", x.bit(21), false);
        x.input(0, true);
        x.scan(1);
        check.same("on at 1", x.bit(21), true);
        x.input(0, false);
        x.scan(1);
        check.same("on without power", x.bit(21), true);
    }

    private static void counterTo1000(Check check) {
        ScanForge x = new ScanForge();
        Rig.row(x, 0, 0, Rig.INVERSE, 16);
        x.coil(0, 0, Rig.OUT, 16);
        Rig.row(x, 1, 0, Rig.CONTACT, 16);
        x.coil(1, 0, Rig.BLOCK, 3);
        x.block(3, Rig.COUNTER, 0, 0, 8, 1000);
        for (int i = 0; i < 39; i++) {
            x.scan(50);
        }
        x.scan(48);
        check.same("counted 999", x.told(3, 1), 999);
        check.same("off at 999", x.bit(8), false);
        x.scan(1);
        check.same("counted 1000", x.told(3, 1), 1000);
        check.same("on at 1000", x.bit(8), true);
        x.scan(50);
        check.same("no further", x.told(3, 1), 1000);
        check.same("still on", x.bit(8), true);
    }

    // "up to n"
    private static void counterStopsAtItsEnd(Check check) {
        ScanForge x = Rig.withBlock(Rig.COUNTER, 0, 0, 8, 2);
        for (int i = 1; i < 6; i++) {
            x.input(0, true);
            x.scan(1);
            check.same("counted " + i, x.told(0, 1), Math.min(i, 2));
            x.input(0, false);
            x.scan(1);
            check.same("bit " + i, x.bit(8), i >= 2);
        }
    }

    private static void counterSeesTheRunBeforeInTheSameScan(Check check) {
        ScanForge x = Rig.withBlock(Rig.COUNTER, 0, 0, 8, 9);
        x.coil(4, 2, Rig.BLOCK, 0);
        x.scan(4);
        check.same("a run without power lies between", x.told(0, 1), 4);
        Rig.wires(x, 4, 2);
        x.scan(4);
        check.same("one more, for the run before had none", x.told(0, 1), 5);
    }

    // "it is 0 again, when RUN with BIT 22 on"
    private static void counterIsResetOnlyWhenRun(Check check) {
        ScanForge x = withReset();
        x.input(0, true);
        x.scan(1);
        x.coil(1, 0, 0, 0);
        x.input(1, true);
        x.scan(1);
        check.same("not run", x.told(5, 1), 1);
        check.same("bit stays", x.bit(8), true);
        x.coil(1, 0, Rig.BLOCK, 5);
        x.scan(1);
        check.same("run", x.told(5, 1), 0);
        check.same("bit off", x.bit(8), false);
    }

    private static void counterGoesOnBehindAReset(Check check) {
        ScanForge x = withReset();
        x.input(1, true);
        x.scan(2);
        x.input(1, false);
        x.input(0, true);
        x.scan(1);
        check.same("counts again", x.told(5, 1), 1);
        check.same("bit on", x.bit(8), true);
    }

    private static void reach(Check check, double a, double b, boolean due) {
        ScanForge x = Rig.withBlock(Rig.REACH, 0, 7, 13, 0);
        x.set(0, a);
        x.set(7, b);
        x.scan(1);
        check.same(a + " less than " + b, x.bit(13), due);
        x.set(0, b - 1);
        x.scan(1);
        check.same("on", x.bit(13), true);
        x.set(0, a);
        x.scan(1);
        check.same(a + " less than " + b + ", after on", x.bit(13), due);
    }

    // "with POWER its BIT is on if REGISTER a is less than REGISTER b, else off"
    private static void reachCompares(Check check) {
        reach(check, 1, 2, true);
        reach(check, 3, 2, false);
        reach(check, -1e12, 1e12, true);
        reach(check, 1e12, -1e11, false);
        reach(check, 0, -0.5, false);
        reach(check, 0.1, 0.2, true);
    }

    private static void reachIsOffForEqualRegisters(Check check) {
        for (double v : new double[] {0, 2, -2, 0.1, 1e12}) {
            reach(check, v, v, false);
        }
        reach(check, -0.0, 0.0, false);
        reach(check, 0.0, -0.0, false);
        ScanForge x = Rig.withBlock(Rig.REACH, 4, 4, 13, 0);
        x.set(4, 1);
        x.scan(1);
        check.same("a register and itself", x.bit(13), false);
    }

    private static void reachSeesTheLeastDifference(Check check) {
        for (double v : new double[] {0, 2, -2, 1000}) {
            reach(check, v, Math.nextUp(v), true);
            reach(check, v, Math.nextDown(v), false);
        }
    }

    // "without POWER it stays"
    private static void reachStaysWithoutPower(Check check) {
        ScanForge x = Rig.withBlock(Rig.REACH, 2, 5, 13, 0);
        x.set(2, 1);
        x.set(5, 2);
        x.scan(1);
        x.input(0, false);
        x.set(2, 3);
        x.scan(1);
        check.same("stays on without power", x.bit(13), true);
        x.input(0, true);
        x.scan(1);
        check.same("off with power", x.bit(13), false);
        x.input(0, false);
        x.set(2, 1);
        x.scan(1);
        check.same("stays off without power", x.bit(13), false);
        check.same("nothing counted", x.told(0, 1), 0);
    }

    private static void firstAndLastBitsAreTheirs(Check check) {
        for (int kind = 1; kind < 4; kind++) {
            for (int c = 8; c < 22; c++) {
                ScanForge x = Rig.withBlock(kind, 0, 1, c, 1);
                x.set(1, 1);
                x.scan(1);
                check.same("bit " + c + " of kind " + kind, x.bit(c), true);
                check.same("the input and no other", x.count(2), 2);
            }
        }
    }
}
