/** Promise 4, and what each kind of COIL does. */
public final class CoilTest {
    public static void main(String[] args) {
        Check check = new Check();
        answersTheKindItWas(check);
        eachRowHasItsOwn(check);
        outFollowsPower(check);
        setAndResetHold(check);
        blockIsRunWithThePower(check);
        coilsActFromRowZeroOn(check);
        laterRungsSeeEarlierCoils(check);
        everyBitAndBlock(check);
        setAndResetAreTakenTwice(check);
        kindIsFromZeroToFour(check);
        bitIsFromEightTo23(check);
        blockIsFromZeroToSeven(check);
        noneTakesAnyNumber(check);
        rungIsFromZeroToFour(check);
        rowIsFromZeroToTwo(check);
        numbersComeBeforePlaces(check);
        aRefusedCallChangesNothing(check);
        check.end("CoilTest");
    }

    private static void answersTheKindItWas(Check check) {
        ScanForge x = new ScanForge();
        check.same("none", x.coil(4, 2, Rig.BLOCK, 7), 0);
        check.same("block", x.coil(4, 2, Rig.RESET, 23), Rig.BLOCK);
        check.same("reset", x.coil(4, 2, Rig.SET, 8), Rig.RESET);
        check.same("set", x.coil(4, 2, Rig.OUT, 8), Rig.SET);
        check.same("out", x.coil(4, 2, 0, -5), Rig.OUT);
        check.same("none again", x.coil(4, 2, 0, 99), 0);
    }

    private static void eachRowHasItsOwn(Check check) {
        ScanForge x = new ScanForge();
        for (int i = 0; i < 15; i++) {
            check.same("first", x.coil(i / 3, i % 3, i % 3 + 1, 8), 0);
        }
        for (int i = 0; i < 15; i++) {
            check.same("second", x.coil(i / 3, i % 3, 0, 0), i % 3 + 1);
        }
    }

    private static void outFollowsPower(Check check) {
        ScanForge x = new ScanForge();
        Rig.row(x, 0, 1, Rig.CONTACT, 4);
        x.coil(0, 1, Rig.OUT, 20);
        for (boolean on : new boolean[] {false, true, true, false}) {
            x.input(4, on);
            x.scan(1);
            check.same("out", x.bit(20), on);
        }
        x.input(4, true);
        x.scan(1);
        x.coil(0, 1, 0, 20);
        x.input(4, false);
        x.scan(1);
        check.same("no coil leaves the bit", x.bit(20), true);
    }

    private static void setAndResetHold(Check check) {
        ScanForge x = new ScanForge();
        Rig.row(x, 0, 0, Rig.CONTACT, 0);
        Rig.row(x, 0, 1, Rig.CONTACT, 1);
        x.coil(0, 0, Rig.SET, 9);
        x.coil(0, 1, Rig.RESET, 9);
        x.scan(1);
        check.same("neither", x.bit(9), false);
        x.input(0, true);
        x.scan(1);
        check.same("set", x.bit(9), true);
        x.input(0, false);
        x.scan(1);
        check.same("stays on", x.bit(9), true);
        x.input(1, true);
        x.scan(1);
        check.same("reset", x.bit(9), false);
        x.input(1, false);
        x.scan(1);
        check.same("stays off", x.bit(9), false);
    }

    private static void blockIsRunWithThePower(Check check) {
        ScanForge x = new ScanForge();
        Rig.row(x, 0, 0, Rig.CONTACT, 0);
        x.coil(0, 0, Rig.BLOCK, 3);
        x.block(3, Rig.DELAY, 0, 0, 8, 2);
        x.scan(2);
        check.same("run without power", x.told(3, 3), 2);
        check.same("not counted", x.told(3, 1), 0);
        x.input(0, true);
        x.scan(2);
        check.same("counted", x.told(3, 1), 2);
        check.same("its bit", x.bit(8), true);
        check.same("another block", x.told(2, 3), 0);
    }

    private static void coilsActFromRowZeroOn(Check check) {
        ScanForge x = new ScanForge();
        for (int row = 0; row < 3; row++) {
            Rig.wires(x, 0, row);
        }
        x.coil(0, 0, Rig.SET, 10);
        x.coil(0, 1, Rig.RESET, 10);
        x.scan(1);
        check.same("reset comes later", x.bit(10), false);
        x.coil(0, 2, Rig.SET, 10);
        x.scan(1);
        check.same("row 2 comes last", x.bit(10), true);
        x.coil(0, 0, Rig.RESET, 10);
        x.coil(0, 1, 0, 0);
        x.scan(1);
        check.same("row 0 comes first", x.bit(10), true);
    }

    private static void laterRungsSeeEarlierCoils(Check check) {
        ScanForge x = new ScanForge();
        Rig.row(x, 1, 0, Rig.CONTACT, 0);
        x.coil(1, 0, Rig.OUT, 16);
        Rig.row(x, 1, 1, Rig.CONTACT, 16);
        x.coil(1, 1, Rig.OUT, 17);
        Rig.row(x, 0, 0, Rig.CONTACT, 16);
        x.coil(0, 0, Rig.OUT, 18);
        Rig.row(x, 2, 0, Rig.CONTACT, 16);
        x.coil(2, 0, Rig.OUT, 19);
        x.input(0, true);
        x.scan(1);
        check.same("same rung looked before its coils", x.bit(17), false);
        check.same("earlier rung", x.bit(18), false);
        check.same("later rung", x.bit(19), true);
        x.scan(1);
        check.same("same rung, next scan", x.bit(17), true);
        check.same("earlier rung, next scan", x.bit(18), true);
    }

    private static void everyBitAndBlock(Check check) {
        for (int bit = 8; bit < 24; bit++) {
            ScanForge x = new ScanForge();
            Rig.wires(x, 4, 2);
            x.coil(4, 2, Rig.SET, bit);
            x.scan(1);
            check.same("set " + bit, x.bit(bit), true);
            check.same("only " + bit, x.count(2), 1);
            x.coil(4, 2, Rig.RESET, bit);
            x.scan(1);
            check.same("reset " + bit, x.bit(bit), false);
        }
        for (int k = 0; k < 8; k++) {
            ScanForge x = new ScanForge();
            x.coil(2, 1, Rig.BLOCK, k);
            x.scan(1);
            check.same("run " + k, x.told(k, 3), 1);
        }
    }

    private static void setAndResetAreTakenTwice(Check check) {
        ScanForge x = new ScanForge();
        Rig.wires(x, 0, 0);
        x.coil(0, 0, Rig.SET, 23);
        x.scan(2);
        check.same("on stays on", x.bit(23), true);
        x.coil(0, 0, Rig.RESET, 23);
        x.scan(2);
        check.same("off stays off", x.bit(23), false);
    }

    // "IllegalArgumentException if kind or n ... is not as said"
    private static void kindIsFromZeroToFour(Check check) {
        ScanForge x = new ScanForge();
        Edges.numbers(check, "kind", 0, 4, kind -> x.coil(0, 0, kind, kind < Rig.BLOCK ? 8 : 7));
    }

    // "a BIT 8 to 23 for 1 to 3"
    private static void bitIsFromEightTo23(Check check) {
        ScanForge x = new ScanForge();
        for (int kind = 1; kind < 4; kind++) {
            int k = kind;
            Edges.numbers(check, "bit of kind " + kind, 8, 23, n -> x.coil(0, 0, k, n));
            check.raises("bit 0 of kind " + kind, Check.BAD_NUMBER, () -> x.coil(0, 0, k, 0));
        }
    }

    // "a BLOCK for 4", and "a BLOCK (0 to 7)"
    private static void blockIsFromZeroToSeven(Check check) {
        ScanForge x = new ScanForge();
        Edges.numbers(check, "block", 0, 7, n -> x.coil(0, 0, Rig.BLOCK, n));
    }

    private static void noneTakesAnyNumber(Check check) {
        ScanForge x = new ScanForge();
        Rig.wires(x, 0, 0);
        for (int n : new int[] {-1, 0, 7, 8, 24, Integer.MIN_VALUE, Integer.MAX_VALUE}) {
            check.takes("none of " + n, () -> x.coil(0, 0, 0, n));
            check.takes("scan", () -> x.scan(1));
            check.raises("place with " + n, Check.BAD_PLACE, () -> x.coil(5, 0, 0, n));
        }
        check.same("no bit is on", x.count(2), 0);
    }

    // "IndexOutOfBoundsException if there is no such RUNG or row"
    private static void rungIsFromZeroToFour(Check check) {
        ScanForge x = new ScanForge();
        Edges.places(check, "rung", 0, 4, g -> x.coil(g, 0, Rig.OUT, 8));
        Edges.places(check, "rung, last place", 0, 4, g -> x.coil(g, 2, Rig.BLOCK, 7));
    }

    private static void rowIsFromZeroToTwo(Check check) {
        ScanForge x = new ScanForge();
        Edges.places(check, "row", 0, 2, row -> x.coil(0, row, Rig.OUT, 8));
        Edges.places(check, "row, last place", 0, 2, row -> x.coil(4, row, Rig.BLOCK, 7));
    }

    // "IllegalArgumentException comes before IndexOutOfBoundsException"
    private static void numbersComeBeforePlaces(Check check) {
        ScanForge x = new ScanForge();
        int[][] places = {{-1, 0}, {5, 0}, {0, -1}, {0, 3}, {9, 9}};
        int[][] numbers = {{-1, 8}, {5, 8}, {1, 7}, {1, 24}, {2, 7}, {2, 24}, {3, 7}, {3, 24}, {4, -1}, {4, 8}};
        for (int[] p : places) {
            for (int[] n : numbers) {
                String what = "kind " + n[0] + " of " + n[1];
                check.raises(what, Check.BAD_NUMBER, () -> x.coil(p[0], p[1], n[0], n[1]));
            }
        }
    }

    private static void aRefusedCallChangesNothing(Check check) {
        ScanForge x = new ScanForge();
        Rig.wires(x, 0, 2);
        x.coil(0, 2, Rig.OUT, 9);
        check.raises("bit", Check.BAD_NUMBER, () -> x.coil(0, 2, Rig.SET, 24));
        check.raises("block", Check.BAD_NUMBER, () -> x.coil(0, 2, Rig.BLOCK, 8));
        check.raises("row", Check.BAD_PLACE, () -> x.coil(0, 3, Rig.OUT, 10));
        check.raises("row before", Check.BAD_PLACE, () -> x.coil(1, -1, Rig.OUT, 10));
        x.scan(1);
        check.same("its bit stays", x.bit(9), true);
        check.same("no other bit", x.count(2), 1);
        check.same("its kind stays", x.coil(0, 2, 0, 0), Rig.OUT);
        check.same("the next rung's coil stays", x.coil(1, 0, 0, 0), 0);
    }
}
