/** Promise 5: what a BLOCK can become, and that it is new then. */
public final class BlockTest {
    public static void main(String[] args) {
        Check check = new Check();
        answersTheKindItWas(check);
        edgesOfTheNumbers(check);
        whatIsNotLookedAtMayBeAnything(check);
        wrongKinds(check);
        wrongCounts(check);
        wrongBits(check);
        wrongRegisters(check);
        wrongSettings(check);
        wrongPlaces(check);
        itIsNew(check);
        guardedStays(check);
        refusedCallsChangeNothing(check);
        check.end("BlockTest");
    }

    private static void answersTheKindItWas(Check check) {
        ScanForge x = new ScanForge();
        int was = 0;
        for (int kind : new int[] {9, 8, 7, 6, 5, 4, 3, 2, 1, 0, 5, 5}) {
            check.same("block " + kind, x.block(6, kind, 1, 2, kind < 4 ? 8 : 3, 5), was);
            check.same("kind " + kind, x.told(6, 0), kind);
            was = kind;
        }
    }

    private static void edgesOfTheNumbers(Check check) {
        ScanForge x = new ScanForge();
        for (int kind = 1; kind < 3; kind++) {
            x.block(0, kind, 0, 0, 8, 1);
            x.block(0, kind, 0, 0, 21, 1000);
            check.same("counting kinds", x.told(0, 0), kind);
        }
        x.block(0, 3, 0, 7, 8, 0);
        x.block(0, 3, 7, 0, 21, 0);
        check.same("reach", x.told(0, 0), 3);
        for (int kind = 4; kind < 10; kind++) {
            x.block(0, kind, 0, 7, 7, -1000);
            x.block(0, kind, 7, 0, 0, 1000);
            check.same("registers", x.told(0, 0), kind);
        }
        check.same("first block", x.block(0, 0, 0, 0, 0, 0), 9);
        check.same("last block", x.block(7, 0, 0, 0, 0, 0), 0);
    }

    private static void whatIsNotLookedAtMayBeAnything(Check check) {
        ScanForge x = new ScanForge();
        Rig.wires(x, 0, 0);
        x.coil(0, 0, Rig.BLOCK, 0);
        for (double n : new double[] {Double.NaN, Double.NEGATIVE_INFINITY, -1e300, 0.5}) {
            x.block(0, 0, Integer.MIN_VALUE, -1, Integer.MAX_VALUE, n);
            x.scan(1);
            x.block(0, 1, Integer.MIN_VALUE, 99, 8, 1);
            x.scan(1);
            x.block(0, 2, -1, Integer.MAX_VALUE, 8, 1);
            x.scan(1);
            x.block(0, 3, 0, 1, 9, n);
            x.scan(1);
            for (int kind = 4; kind < 7; kind++) {
                x.block(0, kind, 0, 1, 2, n);
                x.scan(1);
            }
            x.set(1, 2);
            x.block(0, 7, 0, 1, 2, n);
            x.scan(1);
        }
        check.same("all went well", x.count(3), 0);
        check.same("last kind", x.told(0, 0), 7);
    }

    private static void wrongKinds(Check check) {
        ScanForge x = new ScanForge();
        for (int kind : new int[] {-1, 10, Integer.MIN_VALUE, Integer.MAX_VALUE}) {
            check.raises("kind " + kind, Check.BAD_NUMBER, () -> x.block(0, kind, 0, 0, 0, 1));
            check.raises("kind first " + kind, Check.BAD_NUMBER, () -> x.block(8, kind, 0, 0, 0, 1));
        }
    }

    private static void wrongCounts(Check check) {
        ScanForge x = new ScanForge();
        double[] wrong = {0, -1, 0.5, 1.5, 999.999, 1000.5, 1001, 1e12, -1e300, Double.MIN_VALUE,
            Double.NaN, Double.POSITIVE_INFINITY, Double.NEGATIVE_INFINITY, 4294967297.0};
        for (int kind = 1; kind < 3; kind++) {
            int k = kind;
            for (double n : wrong) {
                check.raises("kind " + kind + " to " + n, Check.BAD_NUMBER, () -> x.block(0, k, 0, 0, 8, n));
                check.raises("count first " + n, Check.BAD_NUMBER, () -> x.block(-1, k, 0, 0, 8, n));
            }
        }
    }

    private static void wrongBits(Check check) {
        ScanForge x = new ScanForge();
        for (int kind = 1; kind < 4; kind++) {
            int k = kind;
            for (int c : new int[] {-1, 0, 7, 22, 23, 24, Integer.MIN_VALUE, Integer.MAX_VALUE}) {
                check.raises("kind " + kind + " bit " + c, Check.BAD_NUMBER, () -> x.block(0, k, 0, 0, c, 1));
                check.raises("bit first " + c, Check.BAD_NUMBER, () -> x.block(9, k, 0, 0, c, 1));
            }
        }
    }

    private static void wrongRegisters(Check check) {
        ScanForge x = new ScanForge();
        for (int kind = 3; kind < 10; kind++) {
            int k = kind;
            int c = kind == 3 ? 8 : 0;
            for (int i : new int[] {-1, 8, Integer.MIN_VALUE, Integer.MAX_VALUE}) {
                check.raises("kind " + kind + " a " + i, Check.BAD_NUMBER, () -> x.block(0, k, i, 0, c, 1));
                check.raises("kind " + kind + " b " + i, Check.BAD_NUMBER, () -> x.block(0, k, 0, i, c, 1));
                check.raises("a first " + i, Check.BAD_NUMBER, () -> x.block(8, k, i, 0, c, 1));
                if (kind > 3) {
                    check.raises("kind " + kind + " c " + i, Check.BAD_NUMBER, () -> x.block(0, k, 0, 0, i, 1));
                }
            }
        }
    }

    private static void wrongSettings(Check check) {
        ScanForge x = new ScanForge();
        double[] wrong = {1000.0000001, -1000.0000001, 1001, -1001, 1e300,
            Double.NaN, Double.POSITIVE_INFINITY, Double.NEGATIVE_INFINITY};
        for (int kind = 8; kind < 10; kind++) {
            int k = kind;
            for (double n : wrong) {
                check.raises("kind " + kind + " with " + n, Check.BAD_NUMBER, () -> x.block(0, k, 0, 0, 0, n));
                check.raises("setting first " + n, Check.BAD_NUMBER, () -> x.block(8, k, 0, 0, 0, n));
            }
        }
        check.same("nothing was changed", x.told(0, 0), 0);
    }

    private static void wrongPlaces(Check check) {
        ScanForge x = new ScanForge();
        for (int k : new int[] {-1, 8, Integer.MIN_VALUE, Integer.MAX_VALUE}) {
            check.raises("nothing " + k, Check.BAD_PLACE, () -> x.block(k, 0, 0, 0, 0, 0));
            check.raises("delay " + k, Check.BAD_PLACE, () -> x.block(k, 1, 0, 0, 8, 1));
            check.raises("regulator " + k, Check.BAD_PLACE, () -> x.block(k, 9, 0, 0, 0, 1));
        }
    }

    private static void itIsNew(Check check) {
        ScanForge x = Rig.withBlock(Rig.COUNTER, 0, 0, 8, 5);
        x.scan(1);
        check.same("counted", x.told(0, 1), 1);
        check.same("same kind again", x.block(0, Rig.COUNTER, 0, 0, 8, 5), Rig.COUNTER);
        check.same("nothing counted", x.told(0, 1), 0);
        check.same("never run", x.told(0, 3), 0);
        x.scan(1);
        check.same("no run before", x.told(0, 1), 1);

        ScanForge y = Rig.withBlock(Rig.REGULATOR, 0, 1, 2, 1);
        y.set(1, 8);
        y.scan(3);
        y.block(0, Rig.REGULATOR, 0, 1, 2, 1);
        y.scan(1);
        check.same("sum and e begin at 0", y.register(2), 13.0);

        ScanForge z = Rig.withBlock(Rig.DIV, 0, 1, 2, 0);
        z.guard(0, true);
        z.scan(3);
        check.same("faults", z.told(0, 4), 3);
        z.block(0, Rig.DIV, 0, 1, 2, 0);
        check.same("no faults", z.told(0, 4), 0);
        check.same("faults in all", z.count(3), 3);
    }

    private static void guardedStays(Check check) {
        ScanForge x = new ScanForge();
        x.guard(4, true);
        x.block(4, Rig.ADD, 0, 0, 0, 0);
        check.same("guarded", x.told(4, 2), 1);
        x.guard(4, false);
        x.block(4, Rig.SUB, 0, 0, 0, 0);
        check.same("not guarded", x.told(4, 2), 0);
    }

    private static void refusedCallsChangeNothing(Check check) {
        ScanForge x = Rig.withBlock(Rig.DELAY, 0, 0, 8, 3);
        x.scan(2);
        check.raises("count", Check.BAD_NUMBER, () -> x.block(0, Rig.DELAY, 0, 0, 8, 1.5));
        check.same("kind stays", x.told(0, 0), Rig.DELAY);
        check.same("counted stays", x.told(0, 1), 2);
        check.same("runs stay", x.told(0, 3), 2);
        x.scan(1);
        check.same("goes on", x.bit(8), true);
    }
}
