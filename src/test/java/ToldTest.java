/** Promise 14. */
public final class ToldTest {
    public static void main(String[] args) {
        Check check = new Check();
        tellsOfACounter(check);
        tellsOfFaults(check);
        sinceItIsThisKind(check);
        othersHaveCountedNothing(check);
        whatIsFromZeroToFour(check);
        blockIsFromZeroToSeven(check);
        numbersComeBeforePlaces(check);
        check.end("ToldTest");
    }

    private static void tellsOfACounter(Check check) {
        ScanForge x = Rig.withBlock(Rig.COUNTER, 0, 0, 8, 5);
        x.scan(3);
        int[] due = {Rig.COUNTER, 1, 0, 3, 0};
        for (int what = 0; what < 5; what++) {
            check.same("told " + what, x.told(0, what), due[what]);
        }
        x.guard(0, true);
        check.same("guarded", x.told(0, 2), 1);
        check.same("another one", x.told(1, 2), 0);
    }

    private static void tellsOfFaults(Check check) {
        ScanForge x = Rig.withBlock(Rig.DIV, 0, 1, 2, 0);
        x.coil(1, 0, Rig.BLOCK, 1);
        Rig.halts(x);
        check.same("faults", x.told(0, 4), 1);
        check.same("runs", x.told(0, 3), 1);
        check.same("not run behind the fault", x.told(1, 3), 0);
        x.resume();
        x.guard(0, true);
        x.scan(2);
        check.same("guarded faults, too", x.told(0, 4), 3);
        check.same("all runs", x.told(0, 3), 3);
        check.same("faults of another", x.told(1, 4), 0);
        check.same("kind 0 is run, too", x.told(1, 3), 2);
    }

    private static void sinceItIsThisKind(Check check) {
        ScanForge x = Rig.withBlock(Rig.DIV, 0, 1, 2, 0);
        x.guard(0, true);
        x.scan(2);
        x.block(0, 0, 0, 0, 0, 0);
        check.same("kind", x.told(0, 0), 0);
        check.same("runs", x.told(0, 3), 0);
        check.same("faults", x.told(0, 4), 0);
        check.same("guarded", x.told(0, 2), 1);
        x.scan(2);
        check.same("runs of kind 0", x.told(0, 3), 2);
    }

    private static void othersHaveCountedNothing(Check check) {
        ScanForge x = Rig.withBlock(Rig.DELAY, 0, 0, 8, 5);
        x.scan(3);
        check.same("delay", x.told(0, 1), 3);
        x.set(1, 1);
        for (int kind = 0; kind < 10; kind++) {
            if (kind != Rig.DELAY && kind != Rig.COUNTER) {
                x.block(0, kind, 0, 1, kind == Rig.REACH ? 8 : 2, 5);
                x.scan(1);
                check.same("kind " + kind, x.told(0, 1), 0);
            }
        }
    }

    // "IllegalArgumentException for another what"
    private static void whatIsFromZeroToFour(Check check) {
        ScanForge x = new ScanForge();
        Edges.numbers(check, "what of block 0", 0, 4, what -> x.told(0, what));
        Edges.numbers(check, "what of block 7", 0, 4, what -> x.told(7, what));
    }

    // "IndexOutOfBoundsException for another k"
    private static void blockIsFromZeroToSeven(Check check) {
        ScanForge x = new ScanForge();
        for (int what = 0; what < 5; what++) {
            int w = what;
            Edges.places(check, "block, what " + what, 0, 7, k -> x.told(k, w));
        }
    }

    // "(looked at last)"
    private static void numbersComeBeforePlaces(Check check) {
        ScanForge x = new ScanForge();
        for (int what : new int[] {-1, 5, Integer.MIN_VALUE, Integer.MAX_VALUE}) {
            for (int k : new int[] {-1, 8, Integer.MIN_VALUE, Integer.MAX_VALUE}) {
                check.raises("block " + k + " what " + what, Check.BAD_NUMBER, () -> x.told(k, what));
            }
        }
    }
}
