/** Promise 2, and what each kind of CELL conducts. */
public final class CellTest {
    public static void main(String[] args) {
        Check check = new Check();
        answersTheKindItWas(check);
        eachPlaceIsItsOwn(check);
        kindsConduct(check);
        edgesAreSeenWithoutPower(check);
        eachCellRemembersForItself(check);
        edgesAreSeenOnce(check);
        aBitIsOffAtFirst(check);
        edgesAreSeenByEachScanOfACall(check);
        aChangedCellForgets(check);
        aCellMadeLaterHasLookedAtNothing(check);
        eachBitCanBeLookedAt(check);
        kindIsFromZeroToFive(check);
        bitIsFromZeroTo23(check);
        bitIsNotLookedAtForOpenAndWire(check);
        rungIsFromZeroToFour(check);
        rowIsFromZeroToTwo(check);
        columnIsFromZeroToThree(check);
        numbersComeBeforePlaces(check);
        aRefusedCallChangesNothing(check);
        check.end("CellTest");
    }

    private static void answersTheKindItWas(Check check) {
        ScanForge x = new ScanForge();
        int was = 0;
        for (int kind : new int[] {5, 4, 3, 2, 1, 0, 3, 3}) {
            check.same("cell " + kind, x.cell(1, 2, 3, kind, 23), was);
            was = kind;
        }
    }

    private static void eachPlaceIsItsOwn(Check check) {
        ScanForge x = new ScanForge();
        for (int i = 0; i < 60; i++) {
            check.same("first", x.cell(i / 12, i / 4 % 3, i % 4, i % 5 + 1, 0), 0);
        }
        for (int i = 0; i < 60; i++) {
            check.same("second", x.cell(i / 12, i / 4 % 3, i % 4, 0, 0), i % 5 + 1);
        }
    }

    private static void kindsConduct(Check check) {
        boolean[][] off = {{false, false}, {true, true}, {false, true}, {true, false}, {false, true}, {false, false}};
        for (int kind = 0; kind < 6; kind++) {
            ScanForge x = new ScanForge();
            x.cell(2, 1, 0, kind, 7);
            x.scan(1);
            check.same("kind " + kind + " off", x.power(2, 1, 0), off[kind][0]);
            x.input(7, true);
            x.scan(1);
            check.same("kind " + kind + " on", x.power(2, 1, 0), off[kind][1]);
        }
    }

    private static void edgesAreSeenWithoutPower(Check check) {
        ScanForge x = new ScanForge();
        x.cell(0, 0, 0, Rig.CONTACT, 1);
        x.cell(0, 0, 1, Rig.RISE, 0);
        x.cell(0, 1, 0, Rig.CONTACT, 1);
        x.cell(0, 1, 1, Rig.FALL, 0);
        x.input(0, true);
        x.scan(1);
        check.same("rise without power", x.power(0, 0, 1), false);
        x.input(1, true);
        x.scan(1);
        check.same("rise is over", x.power(0, 0, 1), false);
        x.input(1, false);
        x.input(0, false);
        x.scan(1);
        check.same("fall without power", x.power(0, 1, 1), false);
        x.input(1, true);
        x.scan(1);
        check.same("fall is over", x.power(0, 1, 1), false);
    }

    private static void eachCellRemembersForItself(Check check) {
        ScanForge x = new ScanForge();
        x.cell(0, 0, 0, Rig.RISE, 0);
        x.input(0, true);
        x.scan(1);
        x.cell(4, 0, 0, Rig.RISE, 0);
        x.scan(1);
        check.same("older cell", x.power(0, 0, 0), false);
        check.same("newer cell", x.power(4, 0, 0), true);
    }

    private static void edgesAreSeenOnce(Check check) {
        ScanForge x = new ScanForge();
        x.cell(0, 0, 0, Rig.RISE, 0);
        x.cell(0, 1, 0, Rig.FALL, 0);
        boolean[] inputs = {false, true, true, false, false, true, false};
        for (int i = 0; i < inputs.length; i++) {
            x.input(0, inputs[i]);
            x.scan(1);
            boolean before = i > 0 && inputs[i - 1];
            check.same("rise " + i, x.power(0, 0, 0), inputs[i] && !before);
            check.same("fall " + i, x.power(0, 1, 0), !inputs[i] && before);
        }
    }

    // "was off when this CELL was looked at in the scan before (off at first)"
    private static void aBitIsOffAtFirst(Check check) {
        ScanForge x = new ScanForge();
        x.cell(0, 0, 0, Rig.RISE, 0);
        x.cell(0, 1, 0, Rig.FALL, 0);
        x.cell(4, 2, 3, Rig.RISE, 0);
        Rig.wires(x, 4, 1);
        x.link(4, 1, 2, true);
        x.input(0, true);
        x.scan(1);
        check.same("rise in the first scan", x.power(0, 0, 0), true);
        check.same("no fall in the first scan", x.power(0, 1, 0), false);
        check.same("rise in the last cell", x.power(4, 2, 3), true);
        ScanForge y = new ScanForge();
        y.cell(0, 0, 0, Rig.RISE, 0);
        y.cell(0, 1, 0, Rig.FALL, 0);
        y.scan(1);
        check.same("no rise of a bit that is off", y.power(0, 0, 0), false);
        check.same("no fall of a bit that was off", y.power(0, 1, 0), false);
    }

    private static void edgesAreSeenByEachScanOfACall(Check check) {
        ScanForge x = new ScanForge();
        Rig.row(x, 0, 0, Rig.RISE, 0);
        x.coil(0, 0, Rig.BLOCK, 0);
        x.block(0, Rig.COUNTER, 0, 0, 8, 9);
        x.input(0, true);
        x.scan(2);
        check.same("only the first of two scans", x.power(0, 0, 0), false);
        check.same("but that one", x.told(0, 1), 1);
    }

    // "(and is as if it was not looked at yet)"
    private static void aChangedCellForgets(Check check) {
        for (int kind = 0; kind < 6; kind++) {
            ScanForge x = new ScanForge();
            x.cell(0, 0, 0, kind, 0);
            x.cell(0, 1, 0, kind, 0);
            x.cell(0, 2, 0, Rig.RISE, 0);
            x.input(0, true);
            x.scan(2);
            check.same("rise instead", x.cell(0, 0, 0, Rig.RISE, 0), kind);
            x.scan(1);
            check.same("rise as if not looked at " + kind, x.power(0, 0, 0), true);
            check.same("another cell has not forgotten", x.power(0, 2, 0), false);
            check.same("fall instead", x.cell(0, 1, 0, Rig.FALL, 0), kind);
            x.input(0, false);
            x.scan(1);
            check.same("fall as if not looked at " + kind, x.power(0, 1, 0), false);
        }
    }

    private static void aCellMadeLaterHasLookedAtNothing(Check check) {
        ScanForge x = new ScanForge();
        x.input(3, true);
        x.scan(3);
        x.cell(2, 1, 0, Rig.RISE, 3);
        x.cell(2, 2, 0, Rig.FALL, 3);
        x.scan(1);
        check.same("rise", x.power(2, 1, 0), true);
        x.scan(1);
        check.same("no rise", x.power(2, 1, 0), false);
        x.input(3, false);
        x.scan(1);
        check.same("fall", x.power(2, 2, 0), true);
    }

    private static void eachBitCanBeLookedAt(Check check) {
        for (int bit = 0; bit < 24; bit++) {
            ScanForge x = new ScanForge();
            if (bit < 8) {
                x.input(bit, true);
            } else {
                Rig.wires(x, 0, 0);
                x.coil(0, 0, Rig.OUT, bit);
            }
            x.cell(1, 0, 0, Rig.CONTACT, bit);
            x.cell(1, 1, 0, Rig.CONTACT, bit == 23 ? 0 : bit + 1);
            x.cell(1, 2, 0, Rig.INVERSE, bit == 0 ? 23 : bit - 1);
            x.scan(1);
            check.same("contact of " + bit, x.power(1, 0, 0), true);
            check.same("contact of the next after " + bit, x.power(1, 1, 0), false);
            check.same("inverse of the one before " + bit, x.power(1, 2, 0), true);
        }
    }

    // "IllegalArgumentException if kind or bit ... is not as said"
    private static void kindIsFromZeroToFive(Check check) {
        ScanForge x = new ScanForge();
        Edges.numbers(check, "kind", 0, 5, kind -> x.cell(0, 0, 0, kind, 0));
    }

    // "bit (0 to 23, looked at for 2 to 5)"
    private static void bitIsFromZeroTo23(Check check) {
        for (int kind = 2; kind < 6; kind++) {
            int k = kind;
            ScanForge x = new ScanForge();
            Edges.numbers(check, "bit for " + kind, 0, 23, bit -> x.cell(0, 0, 0, k, bit));
        }
    }

    private static void bitIsNotLookedAtForOpenAndWire(Check check) {
        ScanForge x = new ScanForge();
        for (int kind = 0; kind < 2; kind++) {
            int k = kind;
            for (int bit : new int[] {-1, 24, Integer.MIN_VALUE, Integer.MAX_VALUE}) {
                check.takes("bit " + bit + " for " + kind, () -> x.cell(4, 2, 0, k, bit));
                check.takes("scan", () -> x.scan(1));
                check.same("power of " + kind, x.power(4, 2, 0), kind == 1);
                check.raises("place with bit " + bit, Check.BAD_PLACE, () -> x.cell(5, 2, 0, k, bit));
            }
        }
    }

    // "IndexOutOfBoundsException if there is no such RUNG, row or column"
    private static void rungIsFromZeroToFour(Check check) {
        ScanForge x = new ScanForge();
        Edges.places(check, "rung", 0, 4, g -> x.cell(g, 0, 0, 1, 0));
        Edges.places(check, "rung, last place", 0, 4, g -> x.cell(g, 2, 3, 5, 23));
    }

    private static void rowIsFromZeroToTwo(Check check) {
        ScanForge x = new ScanForge();
        Edges.places(check, "row", 0, 2, row -> x.cell(0, row, 0, 1, 0));
        Edges.places(check, "row, last place", 0, 2, row -> x.cell(4, row, 3, 5, 23));
    }

    private static void columnIsFromZeroToThree(Check check) {
        ScanForge x = new ScanForge();
        Edges.places(check, "column", 0, 3, column -> x.cell(0, 0, column, 1, 0));
        Edges.places(check, "column, last place", 0, 3, column -> x.cell(4, 2, column, 5, 23));
    }

    // "IllegalArgumentException comes before IndexOutOfBoundsException"
    private static void numbersComeBeforePlaces(Check check) {
        ScanForge x = new ScanForge();
        int[][] places = {{-1, 0, 0}, {5, 0, 0}, {0, -1, 0}, {0, 3, 0}, {0, 0, -1}, {0, 0, 4}, {9, 9, 9}};
        int[][] numbers = {{-1, 0}, {6, 0}, {2, -1}, {2, 24}, {3, 24}, {4, -1}, {5, 24}, {6, 24}};
        for (int[] p : places) {
            for (int[] n : numbers) {
                String what = "kind " + n[0] + ", bit " + n[1];
                check.raises(what, Check.BAD_NUMBER, () -> x.cell(p[0], p[1], p[2], n[0], n[1]));
            }
        }
    }

    private static void aRefusedCallChangesNothing(Check check) {
        ScanForge x = new ScanForge();
        x.cell(0, 0, 0, Rig.RISE, 0);
        x.cell(0, 1, 0, Rig.WIRE, 0);
        x.input(0, true);
        x.scan(1);
        check.raises("bit", Check.BAD_NUMBER, () -> x.cell(0, 0, 0, Rig.RISE, 24));
        check.raises("kind", Check.BAD_NUMBER, () -> x.cell(0, 0, 0, 6, 0));
        check.raises("column", Check.BAD_PLACE, () -> x.cell(0, 0, 4, Rig.OPEN, 0));
        check.raises("row", Check.BAD_PLACE, () -> x.cell(0, -1, 4, Rig.OPEN, 0));
        x.scan(1);
        check.same("still remembered", x.power(0, 0, 0), false);
        check.same("kind stays", x.cell(0, 0, 0, 0, 0), Rig.RISE);
        check.same("the next row's first cell stays", x.cell(0, 1, 0, 0, 0), Rig.WIRE);
    }
}
