/** Promise 5: what a BLOCK can become, and that it is new then. */
public final class BlockTest {
    private static final double[] ANY = {Double.NaN, Double.NEGATIVE_INFINITY, Double.POSITIVE_INFINITY, -1e300,
        0.5, 1001};

    public static void main(String[] args) {
        Check check = new Check();
        answersTheKindItWas(check);
        kindIsFromZeroToNine(check);
        countIsFromOneTo1000(check);
        countIsAWholeNumber(check);
        countIsANumber(check);
        bitIsFromEightTo21(check);
        firstRegisterIsFromZeroToSeven(check);
        secondRegisterIsFromZeroToSeven(check);
        thirdRegisterIsFromZeroToSeven(check);
        settingIsFromMinus1000To1000(check);
        nothingTakesAnyNumbers(check);
        countingKindsTakeAnyRegisters(check);
        reachAndArithmeticTakeAnySetting(check);
        blockIsFromZeroToSeven(check);
        numbersComeBeforePlaces(check);
        aNewDelayHasCountedNothing(check);
        aNewCounterHasCountedNothing(check);
        aNewRegulatorHasNoSum(check);
        aNewBlockHasNoRunsAndFaults(check);
        guardedStaysAsItWas(check);
        aRefusedCallChangesNothing(check);
        check.end("BlockTest");
    }

    private static void answersTheKindItWas(Check check) {
        ScanForge x = new ScanForge();
        int was = 0;
        for (int kind : new int[] {9, 8, 7, 6, 5, 4, 3, 2, 1, 0, 5, 5}) {
            check.same("block " + kind, x.block(6, kind, 1, 2, kind < 4 ? 8 : 3, 5), was);
            check.same("kind " + kind, x.told(6, 0), kind);
            was = kind;
        }
    }

    /** A block whose numbers are the last or the first that are as said. */
    private static int become(ScanForge x, int k, int kind) {
        return x.block(k, kind, 7, 0, kind < 4 ? 21 : 7, 1000);
    }

    // "IllegalArgumentException if a number is not as said"
    private static void kindIsFromZeroToNine(Check check) {
        ScanForge x = new ScanForge();
        Edges.numbers(check, "kind", 0, 9, kind -> become(x, 0, kind));
    }

    // "1, 2 with n (a whole number from 1 to 1000)"
    private static void countIsFromOneTo1000(Check check) {
        ScanForge x = new ScanForge();
        for (int kind = 1; kind < 3; kind++) {
            int k = kind;
            for (double n : new double[] {1, 2, 999, 1000}) {
                check.takes("kind " + kind + " to " + n, () -> x.block(0, k, 0, 0, 8, n));
            }
            double[] wrong = {0, -0.0, -1, -1000, 1001, 65537, 4294967297.0, 1e12, -1e300};
            for (double n : wrong) {
                check.raises("kind " + kind + " to " + n, Check.BAD_NUMBER, () -> x.block(0, k, 0, 0, 8, n));
            }
        }
    }

    private static void countIsAWholeNumber(Check check) {
        ScanForge x = new ScanForge();
        double[] wrong = {Math.nextDown(1.0), Math.nextUp(1.0), 1.5, Math.nextDown(2.0), Math.nextUp(2.0), 500.25,
            Math.nextDown(1000.0), Math.nextUp(1000.0), 0.5, Double.MIN_VALUE};
        for (int kind = 1; kind < 3; kind++) {
            int k = kind;
            for (double n : wrong) {
                check.raises("kind " + kind + " to " + n, Check.BAD_NUMBER, () -> x.block(0, k, 0, 0, 8, n));
            }
        }
    }

    private static void countIsANumber(Check check) {
        ScanForge x = new ScanForge();
        for (int kind = 1; kind < 3; kind++) {
            int k = kind;
            for (double n : new double[] {Double.NaN, Double.POSITIVE_INFINITY, Double.NEGATIVE_INFINITY}) {
                check.raises("kind " + kind + " to " + n, Check.BAD_NUMBER, () -> x.block(0, k, 0, 0, 8, n));
            }
        }
    }

    // "and BIT c (8 to 21); 3 with REGISTERS a, b and BIT c"
    private static void bitIsFromEightTo21(Check check) {
        ScanForge x = new ScanForge();
        for (int kind = 1; kind < 4; kind++) {
            int k = kind;
            Edges.numbers(check, "bit of kind " + kind, 8, 21, c -> x.block(0, k, 0, 0, c, 1));
            check.raises("bit 0 of kind " + kind, Check.BAD_NUMBER, () -> x.block(0, k, 0, 0, 0, 1));
            check.raises("bit 23 of kind " + kind, Check.BAD_NUMBER, () -> x.block(0, k, 0, 0, 23, 1));
        }
    }

    // "4 to 7 with REGISTERS a, b, c; 8, 9 with these"
    private static void firstRegisterIsFromZeroToSeven(Check check) {
        ScanForge x = new ScanForge();
        for (int kind = 3; kind < 10; kind++) {
            int k = kind;
            int c = kind == Rig.REACH ? 8 : 0;
            Edges.numbers(check, "a of kind " + kind, 0, 7, a -> x.block(0, k, a, 0, c, 1));
        }
    }

    private static void secondRegisterIsFromZeroToSeven(Check check) {
        ScanForge x = new ScanForge();
        for (int kind = 3; kind < 10; kind++) {
            int k = kind;
            int c = kind == Rig.REACH ? 8 : 0;
            Edges.numbers(check, "b of kind " + kind, 0, 7, b -> x.block(0, k, 0, b, c, 1));
        }
    }

    private static void thirdRegisterIsFromZeroToSeven(Check check) {
        ScanForge x = new ScanForge();
        for (int kind = 4; kind < 10; kind++) {
            int k = kind;
            Edges.numbers(check, "c of kind " + kind, 0, 7, c -> x.block(0, k, 0, 0, c, 1));
        }
    }

    // "and n (-1000 to 1000)"
    private static void settingIsFromMinus1000To1000(Check check) {
        ScanForge x = new ScanForge();
        for (int kind = 8; kind < 10; kind++) {
            int k = kind;
            Edges.doubles(check, "n of kind " + kind, -1000, 1000, n -> x.block(0, k, 0, 0, 0, n));
        }
    }

    // "What is not looked at may be anything."
    private static void nothingTakesAnyNumbers(Check check) {
        ScanForge x = Rig.withBlock(0, 0, 0, 0, 0);
        for (double n : ANY) {
            check.takes("n " + n, () -> x.block(0, 0, Integer.MIN_VALUE, -1, Integer.MAX_VALUE, n));
            check.takes("other n " + n, () -> x.block(0, 0, 8, Integer.MAX_VALUE, -1, n));
            check.takes("scan", () -> x.scan(1));
        }
        check.same("nothing is done", x.count(2), 1);
    }

    private static void countingKindsTakeAnyRegisters(Check check) {
        ScanForge x = Rig.withBlock(0, 0, 0, 0, 0);
        for (int kind = 1; kind < 3; kind++) {
            int k = kind;
            for (int any : new int[] {-1, 8, Integer.MIN_VALUE, Integer.MAX_VALUE}) {
                check.takes("a " + any, () -> x.block(0, k, any, 0, 8, 1));
                check.takes("scan", () -> x.scan(1));
                check.takes("b " + any, () -> x.block(0, k, 0, any, 8, 1));
                check.takes("scan", () -> x.scan(1));
                check.same("kind " + kind + " counts", x.bit(8), true);
            }
        }
    }

    private static void reachAndArithmeticTakeAnySetting(Check check) {
        ScanForge x = Rig.withBlock(0, 0, 0, 0, 0);
        x.set(0, 1);
        x.set(1, 2);
        double[] due = {3, -1, 2, 0.5};
        for (double n : ANY) {
            check.takes("reach with " + n, () -> x.block(0, Rig.REACH, 0, 1, 9, n));
            check.takes("scan", () -> x.scan(1));
            check.same("reach with " + n, x.bit(9), true);
            for (int kind = 4; kind < 8; kind++) {
                int k = kind;
                check.takes("kind " + kind + " with " + n, () -> x.block(0, k, 0, 1, 2, n));
                check.takes("scan", () -> x.scan(1));
                check.same("kind " + kind + " with " + n, x.register(2), due[kind - 4]);
            }
        }
    }

    // "IndexOutOfBoundsException if there is no BLOCK k"
    private static void blockIsFromZeroToSeven(Check check) {
        for (int kind = 0; kind < 10; kind++) {
            int which = kind;
            ScanForge x = new ScanForge();
            Edges.places(check, "block of kind " + kind, 0, 7, k -> become(x, k, which));
        }
    }

    // "IllegalArgumentException comes before IndexOutOfBoundsException"
    private static void numbersComeBeforePlaces(Check check) {
        double[][] wrong = {{-1, 0, 0, 8, 1}, {10, 0, 0, 8, 1}, {1, 0, 0, 7, 1}, {1, 0, 0, 22, 1}, {1, 0, 0, 8, 0},
            {1, 0, 0, 8, 1001}, {1, 0, 0, 8, 1.5}, {1, 0, 0, 8, Double.NaN}, {2, 0, 0, 7, 1}, {2, 0, 0, 22, 1},
            {2, 0, 0, 8, 0}, {2, 0, 0, 8, 1001}, {2, 0, 0, 8, 1.5}, {3, -1, 0, 8, 1}, {3, 0, 8, 8, 1}, {3, 0, 0, 22, 1},
            {4, 8, 0, 0, 1}, {4, 0, 8, 0, 1}, {4, 0, 0, 8, 1}, {5, -1, 0, 0, 1}, {6, 0, -1, 0, 1}, {7, 0, 0, -1, 1},
            {8, 8, 0, 0, 1}, {8, 0, 0, 0, 1001}, {8, 0, 0, 0, Double.NaN}, {9, 0, 8, 0, 1}, {9, 0, 0, 0, -1001},
            {9, 0, 0, 0, Double.NaN}};
        ScanForge x = new ScanForge();
        for (double[] w : wrong) {
            for (int k : new int[] {-1, 8, Integer.MIN_VALUE, Integer.MAX_VALUE}) {
                String what = "block " + k + " kind " + w[0] + " " + w[1] + " " + w[2] + " " + w[3] + " " + w[4];
                check.raises(what, Check.BAD_NUMBER,
                    () -> x.block(k, (int) w[0], (int) w[1], (int) w[2], (int) w[3], w[4]));
            }
        }
    }

    // "BLOCK k becomes of this KIND, new"
    private static void aNewDelayHasCountedNothing(Check check) {
        ScanForge x = Rig.withBlock(Rig.DELAY, 0, 0, 8, 3);
        x.scan(2);
        check.same("same kind again", x.block(0, Rig.DELAY, 0, 0, 8, 3), Rig.DELAY);
        check.same("nothing counted", x.told(0, 1), 0);
        x.scan(2);
        check.same("two of three", x.bit(8), false);
        x.scan(1);
        check.same("three of three", x.bit(8), true);
        check.same("as a counter", x.block(0, Rig.COUNTER, 0, 0, 8, 5), Rig.DELAY);
        check.same("nothing taken over", x.told(0, 1), 0);
    }

    private static void aNewCounterHasCountedNothing(Check check) {
        ScanForge x = Rig.withBlock(Rig.COUNTER, 0, 0, 8, 5);
        x.scan(1);
        check.same("counted", x.told(0, 1), 1);
        check.same("same kind again", x.block(0, Rig.COUNTER, 0, 0, 8, 5), Rig.COUNTER);
        check.same("nothing counted", x.told(0, 1), 0);
        x.scan(1);
        check.same("there was no run before", x.told(0, 1), 1);
        x.block(0, Rig.DELAY, 0, 0, 8, 5);
        x.scan(1);
        x.block(0, Rig.COUNTER, 0, 0, 8, 5);
        x.scan(1);
        check.same("nor one as another kind", x.told(0, 1), 1);
    }

    private static void aNewRegulatorHasNoSum(Check check) {
        ScanForge x = Rig.withBlock(Rig.REGULATOR, 0, 1, 2, 1);
        x.set(1, 8);
        x.scan(3);
        x.block(0, Rig.REGULATOR, 0, 1, 2, 1);
        x.scan(1);
        check.same("sum and e begin at 0", x.register(2), 13.0);
        x.block(0, Rig.ADD, 0, 1, 2, 1);
        x.block(0, Rig.REGULATOR, 0, 1, 2, 1);
        x.scan(1);
        check.same("sum and e begin at 0 again", x.register(2), 13.0);
    }

    private static void aNewBlockHasNoRunsAndFaults(Check check) {
        ScanForge x = Rig.withBlock(Rig.DIV, 0, 1, 2, 0);
        x.guard(0, true);
        x.scan(3);
        check.same("runs", x.told(0, 3), 3);
        check.same("faults", x.told(0, 4), 3);
        x.block(0, Rig.DIV, 0, 1, 2, 0);
        check.same("no runs", x.told(0, 3), 0);
        check.same("no faults", x.told(0, 4), 0);
        check.same("faults in all", x.count(3), 3);
    }

    // "(but GUARDED, or not, as it was)"
    private static void guardedStaysAsItWas(Check check) {
        ScanForge x = Rig.withBlock(Rig.DIV, 0, 1, 2, 0);
        for (int kind = 0; kind < 10; kind++) {
            x.guard(0, true);
            become(x, 0, kind);
            check.same("guarded " + kind, x.told(0, 2), 1);
            x.guard(0, false);
            become(x, 0, kind);
            check.same("not guarded " + kind, x.told(0, 2), 0);
        }
        x.guard(0, true);
        x.block(0, Rig.DIV, 0, 1, 2, 0);
        check.same("a fault goes on", Rig.halts(x), false);
        x.guard(0, false);
        x.block(0, Rig.DIV, 0, 1, 2, 0);
        check.same("a fault halts", Rig.halts(x), true);
    }

    private static void aRefusedCallChangesNothing(Check check) {
        ScanForge x = Rig.withBlock(Rig.DELAY, 0, 0, 8, 3);
        x.scan(2);
        check.raises("count", Check.BAD_NUMBER, () -> x.block(0, Rig.DELAY, 0, 0, 9, 1.5));
        check.raises("bit", Check.BAD_NUMBER, () -> x.block(0, Rig.COUNTER, 0, 0, 22, 1));
        check.raises("register", Check.BAD_NUMBER, () -> x.block(0, Rig.ADD, 0, 0, 8, 1));
        check.raises("kind", Check.BAD_NUMBER, () -> x.block(0, 10, 0, 0, 8, 1));
        check.raises("block", Check.BAD_PLACE, () -> x.block(8, Rig.DELAY, 0, 0, 9, 1));
        check.same("kind stays", x.told(0, 0), Rig.DELAY);
        check.same("counted stays", x.told(0, 1), 2);
        check.same("runs stay", x.told(0, 3), 2);
        x.scan(1);
        check.same("goes on", x.bit(8), true);
        check.same("no other bit", x.bit(9), false);
    }
}
