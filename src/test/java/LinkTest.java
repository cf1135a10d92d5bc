/** Promise 3, and how LINKS share POWER. */
public final class LinkTest {
    public static void main(String[] args) {
        Check check = new Check();
        answersWhetherItWas(check);
        eachPlaceIsItsOwn(check);
        everyPatternIsShared(check);
        linksStandBehindTheirColumn(check);
        linkedPowerGoesOn(check);
        powerComesByWayOfRowOne(check);
        rungIsFromZeroToFour(check);
        rowIsZeroOrOne(check);
        columnIsFromZeroToThree(check);
        aRefusedCallChangesNothing(check);
        check.end("LinkTest");
    }

    private static void answersWhetherItWas(Check check) {
        ScanForge x = new ScanForge();
        check.same("first", x.link(0, 0, 0, true), false);
        check.same("again", x.link(0, 0, 0, true), true);
        check.same("away", x.link(0, 0, 0, false), true);
        check.same("away again", x.link(0, 0, 0, false), false);
    }

    private static void eachPlaceIsItsOwn(Check check) {
        ScanForge x = new ScanForge();
        for (int i = 0; i < 40; i++) {
            check.same("first", x.link(i / 8, i / 4 % 2, i % 4, i % 3 == 0), false);
        }
        for (int i = 0; i < 40; i++) {
            check.same("second", x.link(i / 8, i / 4 % 2, i % 4, false), i % 3 == 0);
        }
    }

    private static void everyPatternIsShared(Check check) {
        for (int pattern = 0; pattern < 32; pattern++) {
            for (int column = 0; column < 4; column++) {
                sharePattern(check, pattern, column);
            }
        }
    }

    private static void sharePattern(Check check, int pattern, int column) {
        boolean[] p = {(pattern & 1) != 0, (pattern & 2) != 0, (pattern & 4) != 0};
        boolean upper = (pattern & 8) != 0;
        boolean lower = (pattern & 16) != 0;
        ScanForge x = new ScanForge();
        for (int row = 0; row < 3; row++) {
            for (int before = 0; before < column; before++) {
                x.cell(3, row, before, Rig.WIRE, 0);
            }
            x.cell(3, row, column, p[row] ? Rig.WIRE : Rig.OPEN, 0);
        }
        x.link(3, 0, column, upper);
        x.link(3, 1, column, lower);
        x.scan(1);
        boolean top = p[0] || upper && (p[1] || lower && p[2]);
        boolean middle = p[1] || upper && p[0] || lower && p[2];
        boolean bottom = p[2] || lower && (p[1] || upper && p[0]);
        String at = "pattern " + pattern + " column " + column + " row ";
        check.same(at + 0, x.power(3, 0, column), top);
        check.same(at + 1, x.power(3, 1, column), middle);
        check.same(at + 2, x.power(3, 2, column), bottom);
    }

    private static void linksStandBehindTheirColumn(Check check) {
        ScanForge x = new ScanForge();
        Rig.wires(x, 0, 0);
        x.cell(0, 1, 0, Rig.OPEN, 0);
        x.cell(0, 1, 1, Rig.OPEN, 0);
        x.link(0, 0, 1, true);
        x.scan(1);
        check.same("before the link", x.power(0, 1, 0), false);
        check.same("behind the link", x.power(0, 1, 1), true);
        check.same("open again", x.power(0, 1, 2), false);
        check.same("other rung", x.power(1, 1, 1), false);
        x.link(0, 0, 1, false);
        x.scan(1);
        check.same("link is away", x.power(0, 1, 1), false);
    }

    private static void linkedPowerGoesOn(Check check) {
        ScanForge x = new ScanForge();
        x.cell(0, 2, 0, Rig.WIRE, 0);
        x.link(0, 1, 0, true);
        x.link(0, 0, 0, true);
        x.cell(0, 0, 1, Rig.WIRE, 0);
        x.cell(0, 0, 2, Rig.WIRE, 0);
        x.cell(0, 0, 3, Rig.WIRE, 0);
        x.coil(0, 0, Rig.OUT, 12);
        x.scan(1);
        check.same("around the open cell", x.bit(12), true);
        x.link(0, 0, 3, true);
        x.coil(0, 1, Rig.OUT, 13);
        x.scan(1);
        check.same("link behind the last column", x.bit(13), true);
    }

    // "ROWS that are LINKED there (also by way of ROW 1) all have POWER if one of them has"
    private static void powerComesByWayOfRowOne(Check check) {
        for (int from = 0; from < 3; from += 2) {
            for (int column = 0; column < 4; column++) {
                ScanForge x = new ScanForge();
                Rig.wires(x, 4, from);
                x.link(4, 0, column, true);
                x.link(4, 1, column, true);
                x.scan(1);
                for (int row = 0; row < 3; row++) {
                    check.same("from " + from + " to " + row, x.power(4, row, column), true);
                }
                x.link(4, from == 0 ? 0 : 1, column, false);
                x.scan(1);
                check.same("not to row 1 any more", x.power(4, 1, column), false);
                check.same("nor to the other end", x.power(4, 2 - from, column), false);
            }
        }
    }

    // "IndexOutOfBoundsException if there is no such place (row 0, 1)"
    private static void rungIsFromZeroToFour(Check check) {
        ScanForge x = new ScanForge();
        Edges.places(check, "rung", 0, 4, g -> x.link(g, 0, 0, true));
        Edges.places(check, "rung, last place", 0, 4, g -> x.link(g, 1, 3, false));
    }

    private static void rowIsZeroOrOne(Check check) {
        ScanForge x = new ScanForge();
        Edges.places(check, "row", 0, 1, row -> x.link(0, row, 0, true));
        Edges.places(check, "row, last place", 0, 1, row -> x.link(4, row, 3, false));
    }

    private static void columnIsFromZeroToThree(Check check) {
        ScanForge x = new ScanForge();
        Edges.places(check, "column", 0, 3, column -> x.link(0, 0, column, true));
        Edges.places(check, "column, last place", 0, 3, column -> x.link(4, 1, column, false));
    }

    private static void aRefusedCallChangesNothing(Check check) {
        ScanForge x = new ScanForge();
        check.raises("row", Check.BAD_PLACE, () -> x.link(0, 2, 0, true));
        check.raises("column", Check.BAD_PLACE, () -> x.link(0, 0, 4, true));
        check.raises("column before", Check.BAD_PLACE, () -> x.link(0, 1, -1, true));
        check.raises("rung", Check.BAD_PLACE, () -> x.link(5, 0, 0, true));
        for (int i = 0; i < 40; i++) {
            check.same("link " + i, x.link(i / 8, i / 4 % 2, i % 4, false), false);
        }
    }
}
