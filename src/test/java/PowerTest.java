/** Promise 13. */
public final class PowerTest {
    public static void main(String[] args) {
        Check check = new Check();
        falseBeforeAScan(check);
        beforeAndBehindEachColumn(check);
        allRowsFromTheLeft(check);
        changesWaitForAScan(check);
        staysForRungsNotLookedAt(check);
        wrongPlaces(check);
        check.end("PowerTest");
    }

    private static void falseBeforeAScan(Check check) {
        ScanForge x = new ScanForge();
        Rig.wires(x, 0, 0);
        for (int column = -1; column < 4; column++) {
            check.same("column " + column, x.power(0, 0, column), false);
        }
    }

    private static void beforeAndBehindEachColumn(Check check) {
        for (int open = 0; open < 4; open++) {
            ScanForge x = new ScanForge();
            Rig.wires(x, 2, 1);
            x.cell(2, 1, open, Rig.OPEN, 0);
            x.scan(1);
            for (int column = -1; column < 4; column++) {
                check.same("open " + open + " column " + column, x.power(2, 1, column), column < open);
            }
        }
    }

    private static void allRowsFromTheLeft(Check check) {
        ScanForge x = new ScanForge();
        x.scan(1);
        for (int g = 0; g < 5; g++) {
            for (int row = 0; row < 3; row++) {
                check.same("rung " + g + " row " + row, x.power(g, row, -1), true);
                check.same("behind", x.power(g, row, 0), false);
            }
        }
    }

    private static void changesWaitForAScan(Check check) {
        ScanForge x = new ScanForge();
        Rig.row(x, 0, 0, Rig.CONTACT, 0);
        x.input(0, true);
        x.scan(1);
        x.input(0, false);
        check.same("input", x.power(0, 0, 0), true);
        x.cell(0, 0, 0, Rig.OPEN, 0);
        check.same("cell", x.power(0, 0, 0), true);
        x.link(0, 0, 0, true);
        check.same("link", x.power(0, 1, 0), false);
        x.scan(1);
        check.same("after a scan", x.power(0, 0, 0), false);
    }

    private static void staysForRungsNotLookedAt(Check check) {
        ScanForge x = new ScanForge();
        Rig.row(x, 0, 0, Rig.CONTACT, 0);
        x.coil(0, 0, Rig.BLOCK, 0);
        x.block(0, Rig.DIV, 0, 1, 2, 0);
        Rig.row(x, 0, 1, Rig.CONTACT, 0);
        Rig.row(x, 1, 0, Rig.INVERSE, 0);
        x.scan(1);
        x.input(0, true);
        check.same("halts", Rig.halts(x), true);
        check.same("looked at in that scan", x.power(0, 1, 3), true);
        check.same("looked at in the scan before", x.power(1, 0, 3), true);
        x.block(0, 0, 0, 0, 0, 0);
        x.resume();
        x.scan(1);
        check.same("looked at again", x.power(1, 0, 3), false);
    }

    private static void wrongPlaces(Check check) {
        ScanForge x = new ScanForge();
        for (int i : new int[] {-2, 5, Integer.MIN_VALUE, Integer.MAX_VALUE}) {
            check.raises("rung " + i, Check.BAD_PLACE, () -> x.power(i, 0, 0));
            check.raises("row " + i, Check.BAD_PLACE, () -> x.power(0, i, 0));
            check.raises("column " + i, Check.BAD_PLACE, () -> x.power(0, 0, i));
        }
        check.raises("rung -1", Check.BAD_PLACE, () -> x.power(-1, 0, 0));
        check.raises("row -1", Check.BAD_PLACE, () -> x.power(0, -1, 0));
        check.raises("row 3", Check.BAD_PLACE, () -> x.power(0, 3, 0));
        check.raises("column 4", Check.BAD_PLACE, () -> x.power(0, 0, 4));
        check.same("last place", x.power(4, 2, 3), false);
    }
}
