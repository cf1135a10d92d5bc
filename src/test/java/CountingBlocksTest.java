/** Promise 9: the BLOCKS with a BIT of their own: nothing, DELAY, COUNTER and REACH. */
public final class CountingBlocksTest {
    public static void main(String[] args) {
        Check check = new Check();
        nothingIsDone(check);
        delayCountsUp(check);
        delayFallsBack(check);
        delayCountsEachRun(check);
        counterCountsRises(check);
        counterStopsAtItsEnd(check);
        counterIsReset(check);
        counterRemembersPowerWhileReset(check);
        counterSeesNoBitButItsReset(check);
        reachCompares(check);
        aBitStaysWhenTheBlockChanges(check);
        check.end("CountingBlocksTest");
    }

    private static void nothingIsDone(Check check) {
        ScanForge x = Rig.withBlock(0, 0, 0, 0, 0);
        x.set(0, 3);
        x.scan(4);
        check.same("bits", x.count(2), 1);
        check.same("register", x.register(0), 3.0);
        check.same("runs", x.told(0, 3), 4);
        check.same("counted", x.told(0, 1), 0);
    }

    private static void delayCountsUp(Check check) {
        ScanForge x = Rig.withBlock(Rig.DELAY, 0, 0, 21, 3);
        for (int i = 1; i <= 6; i++) {
            x.scan(1);
            check.same("counted " + i, x.told(0, 1), Math.min(i, 3));
            check.same("bit " + i, x.bit(21), i >= 3);
        }
        ScanForge one = Rig.withBlock(Rig.DELAY, 0, 0, 8, 1);
        one.scan(1);
        check.same("delay of 1", one.bit(8), true);
        ScanForge most = Rig.withBlock(Rig.DELAY, 0, 0, 8, 1000);
        for (int i = 0; i < 19; i++) {
            most.scan(50);
        }
        most.scan(49);
        check.same("999", most.bit(8), false);
        most.scan(1);
        check.same("1000", most.bit(8), true);
        most.scan(50);
        check.same("no further", most.told(0, 1), 1000);
    }

    private static void delayFallsBack(Check check) {
        ScanForge x = Rig.withBlock(Rig.DELAY, 0, 0, 8, 3);
        x.scan(2);
        x.input(0, false);
        x.scan(1);
        check.same("back to 0", x.told(0, 1), 0);
        x.input(0, true);
        x.scan(2);
        check.same("from the beginning", x.bit(8), false);
        x.scan(1);
        check.same("at its end", x.bit(8), true);
        x.input(0, false);
        x.scan(1);
        check.same("off without power", x.bit(8), false);
    }

    private static void delayCountsEachRun(Check check) {
        ScanForge x = Rig.withBlock(Rig.DELAY, 0, 0, 8, 9);
        Rig.wires(x, 4, 1);
        x.coil(4, 1, Rig.BLOCK, 0);
        x.scan(2);
        check.same("two runs a scan", x.told(0, 1), 4);
        check.same("runs", x.told(0, 3), 4);
    }

    private static void counterCountsRises(Check check) {
        ScanForge x = Rig.withBlock(Rig.COUNTER, 0, 0, 16, 3);
        boolean[] inputs = {true, true, false, false, true, false, true, true};
        int[] counted = {1, 1, 1, 1, 2, 2, 3, 3};
        for (int i = 0; i < inputs.length; i++) {
            x.input(0, inputs[i]);
            x.scan(1);
            check.same("counted " + i, x.told(0, 1), counted[i]);
            check.same("bit " + i, x.bit(16), counted[i] == 3);
        }
    }

    private static void counterStopsAtItsEnd(Check check) {
        ScanForge x = Rig.withBlock(Rig.COUNTER, 0, 0, 8, 2);
        for (int i = 0; i < 5; i++) {
            x.input(0, true);
            x.scan(1);
            x.input(0, false);
            x.scan(1);
        }
        check.same("counted", x.told(0, 1), 2);
        check.same("bit stays on without power", x.bit(8), true);
    }

    private static ScanForge withReset() {
        ScanForge x = new ScanForge();
        Rig.row(x, 0, 0, Rig.CONTACT, 1);
        x.coil(0, 0, Rig.OUT, 22);
        Rig.row(x, 1, 0, Rig.CONTACT, 0);
        x.coil(1, 0, Rig.BLOCK, 5);
        x.block(5, Rig.COUNTER, 0, 0, 8, 1);
        return x;
    }

    private static void counterIsReset(Check check) {
        ScanForge x = withReset();
        x.input(0, true);
        x.scan(1);
        check.same("counted", x.bit(8), true);
        x.input(0, false);
        x.input(1, true);
        x.scan(1);
        check.same("0 without power", x.told(5, 1), 0);
        check.same("bit off", x.bit(8), false);
        x.input(0, true);
        x.scan(1);
        check.same("does not count", x.told(5, 1), 0);
        check.same("bit stays off", x.bit(8), false);
    }

    private static void counterRemembersPowerWhileReset(Check check) {
        ScanForge x = withReset();
        x.input(0, true);
        x.input(1, true);
        x.scan(1);
        x.input(1, false);
        x.scan(1);
        check.same("the run before had power", x.told(5, 1), 0);
        x.input(0, false);
        x.scan(1);
        x.input(0, true);
        x.scan(1);
        check.same("a new rise", x.told(5, 1), 1);
    }

    private static void counterSeesNoBitButItsReset(Check check) {
        ScanForge x = Rig.withBlock(Rig.COUNTER, 0, 0, 8, 1);
        Rig.wires(x, 1, 0);
        x.coil(1, 0, Rig.SET, 21);
        Rig.wires(x, 1, 1);
        x.coil(1, 1, Rig.SET, 23);
        x.scan(3);
        check.same("counted", x.told(0, 1), 1);
        ScanForge y = Rig.withBlock(Rig.DELAY, 0, 0, 8, 5);
        Rig.wires(y, 1, 0);
        y.coil(1, 0, Rig.SET, 22);
        y.scan(3);
        check.same("no delay is reset", y.told(0, 1), 3);
    }

    private static void reachCompares(Check check) {
        ScanForge x = Rig.withBlock(Rig.REACH, 2, 5, 13, 0);
        double[][] values = {{1, 2}, {2, 2}, {3, 2}, {-1e12, 1e12}, {0, -0.5}, {0.1, 0.2}, {-0.0, 0.0}};
        for (double[] v : values) {
            x.set(2, v[0]);
            x.set(5, v[1]);
            x.scan(1);
            check.same(v[0] + " less than " + v[1], x.bit(13), v[0] < v[1]);
        }
        x.set(2, 1);
        x.set(5, 2);
        x.scan(1);
        x.input(0, false);
        x.set(2, 3);
        x.scan(1);
        check.same("stays on without power", x.bit(13), true);
        x.input(0, true);
        x.scan(1);
        check.same("off with power", x.bit(13), false);
        x.input(0, false);
        x.set(2, 1);
        x.scan(1);
        check.same("stays off without power", x.bit(13), false);
        check.same("nothing counted", x.told(0, 1), 0);
    }

    private static void aBitStaysWhenTheBlockChanges(Check check) {
        ScanForge x = Rig.withBlock(Rig.DELAY, 0, 0, 8, 1);
        x.scan(1);
        x.block(0, Rig.DELAY, 0, 0, 9, 1);
        check.same("not run yet", x.bit(8), true);
        x.scan(1);
        check.same("old bit", x.bit(8), true);
        check.same("new bit", x.bit(9), true);
    }
}
