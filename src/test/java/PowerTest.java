/** Promise 13. */
public final class PowerTest {
    public static void main(String[] args) {
        Check check = new Check();
        falseBeforeAScan(check);
        beforeAndBehindEachColumn(check);
        allRowsFromTheLeft(check);
        changesWaitForAScan(check);
        staysForRungsNotLookedAt(check);
        falseForRungsThatNoScanReached(check);
        rungIsFromZeroToFour(check);
        rowIsFromZeroToTwo(check);
        columnIsFromMinusOneToThree(check);
        check.end("PowerTest");
    }

    private static void falseBeforeAScan(Check check) {
        ScanForge x = new ScanForge();
        Rig.wires(x, 0, 0);
        for (int column = -1; column < 4; column++) {
            check.same("column " + column, x.power(0, 0, column), false);
        }
    }

    private static void beforeAndBehindEachColumn(Check check) {
        for (int open = 0; open < 4; open++) {
            ScanForge x = new ScanForge();
            Rig.wires(x, 2, 1);
            x.cell(2, 1, open, Rig.OPEN, 0);
            x.scan(1);
            for (int column = -1; column < 4; column++) {
                check.same("open " + open + " column " + column, x.power(2, 1, column), column < open);
            }
        }
    }

    private static void allRowsFromTheLeft(Check check) {
        ScanForge x = new ScanForge();
        x.scan(1);
        for (int g = 0; g < 5; g++) {
            for (int row = 0; row < 3; row++) {
                check.same("rung " + g + " row " + row, x.power(g, row, -1), true);
                check.same("behind", x.power(g, row, 0), false);
            }
        }
    }

    private static void changesWaitForAScan(Check check) {
        ScanForge x = new ScanForge();
        Rig.row(x, 0, 0, Rig.CONTACT, 0);
        x.input(0, true);
        x.scan(1);
        x.input(0, false);
        check.same("input", x.power(0, 0, 0), true);
        x.cell(0, 0, 0, Rig.OPEN, 0);
        check.same("cell", x.power(0, 0, 0), true);
        x.link(0, 0, 0, true);
        check.same("link", x.power(0, 1, 0), false);
        x.scan(1);
        check.same("after a scan", x.power(0, 0, 0), false);
    }

    private static void staysForRungsNotLookedAt(Check check) {
        ScanForge x = new ScanForge();
        Rig.row(x, 0, 0, Rig.CONTACT, 0);
        x.coil(0, 0, Rig.BLOCK, 0);
        x.block(0, Rig.DIV, 0, 1, 2, 0);
        Rig.row(x, 0, 1, Rig.CONTACT, 0);
        Rig.row(x, 1, 0, Rig.INVERSE, 0);
        x.scan(1);
        x.input(0, true);
        check.same("halts", Rig.halts(x), true);
        check.same("looked at in that scan", x.power(0, 1, 3), true);
        check.same("looked at in the scan before", x.power(1, 0, 3), true);
        x.block(0, 0, 0, 0, 0, 0);
        x.resume();
        x.scan(1);
        check.same("looked at again", x.power(1, 0, 3), false);
    }

    // "in the latest SCAN that looked at it (false before one)"
    private static void falseForRungsThatNoScanReached(Check check) {
        for (int halting = 0; halting < 5; halting++) {
            ScanForge x = new ScanForge();
            for (int g = 0; g < 5; g++) {
                Rig.wires(x, g, 2);
            }
            x.coil(halting, 2, Rig.BLOCK, 0);
            x.block(0, Rig.DIV, 0, 1, 2, 0);
            check.same("halts", Rig.halts(x), true);
            for (int g = 0; g < 5; g++) {
                String at = "halting " + halting + " rung " + g;
                check.same(at + " before all", x.power(g, 0, -1), g <= halting);
                check.same(at + " behind all", x.power(g, 2, 3), g <= halting);
            }
        }
    }

    // "power ... throws IndexOutOfBoundsException", for RUNGS, ROWS and "a column (0 to 3; -1: before all)"
    private static void rungIsFromZeroToFour(Check check) {
        ScanForge x = new ScanForge();
        Edges.places(check, "rung", 0, 4, g -> x.power(g, 0, -1));
        Edges.places(check, "rung, last place", 0, 4, g -> x.power(g, 2, 3));
    }

    private static void rowIsFromZeroToTwo(Check check) {
        ScanForge x = new ScanForge();
        Edges.places(check, "row", 0, 2, row -> x.power(0, row, -1));
        Edges.places(check, "row, last place", 0, 2, row -> x.power(4, row, 3));
    }

    private static void columnIsFromMinusOneToThree(Check check) {
        ScanForge x = new ScanForge();
        Edges.places(check, "column", -1, 3, column -> x.power(0, 0, column));
        Edges.places(check, "column, last place", -1, 3, column -> x.power(4, 2, column));
    }
}
