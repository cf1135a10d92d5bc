/** Promise 2, and what each kind of CELL conducts. */
public final class CellTest {
    public static void main(String[] args) {
        Check check = new Check();
        answersTheKindItWas(check);
        eachPlaceIsItsOwn(check);
        kindsConduct(check);
        edgesAreSeenOnce(check);
        edgesAreSeenWithoutPower(check);
        aChangedCellForgets(check);
        eachCellRemembersForItself(check);
        eachBitCanBeLookedAt(check);
        wrongNumbers(check);
        wrongPlaces(check);
        refusedCallsChangeNothing(check);
        check.end("CellTest");
    }

    private static void answersTheKindItWas(Check check) {
        ScanForge x = new ScanForge();
        int was = 0;
        for (int kind : new int[] {5, 4, 3, 2, 1, 0, 3, 3}) {
            check.same("cell " + kind, x.cell(1, 2, 3, kind, 23), was);
            was = kind;
        }
    }

    private static void eachPlaceIsItsOwn(Check check) {
        ScanForge x = new ScanForge();
        for (int i = 0; i < 60; i++) {
            check.same("first", x.cell(i / 12, i / 4 % 3, i % 4, i % 5 + 1, 0), 0);
        }
        for (int i = 0; i < 60; i++) {
            check.same("second", x.cell(i / 12, i / 4 % 3, i % 4, 0, 0), i % 5 + 1);
        }
    }

    private static void kindsConduct(Check check) {
        boolean[][] off = {{false, false}, {true, true}, {false, true}, {true, false}, {false, true}, {false, false}};
        for (int kind = 0; kind < 6; kind++) {
            ScanForge x = new ScanForge();
            x.cell(2, 1, 0, kind, 7);
            x.scan(1);
            check.same("kind " + kind + " off", x.power(2, 1, 0), off[kind][0]);
            x.input(7, true);
            x.scan(1);
            check.same("kind " + kind + " on", x.power(2, 1, 0), off[kind][1]);
        }
    }

    private static void edgesAreSeenOnce(Check check) {
        ScanForge x = new ScanForge();
        x.cell(0, 0, 0, Rig.RISE, 0);
        x.cell(0, 1, 0, Rig.FALL, 0);
        boolean[] inputs = {false, true, true, false, false, true, false};
        for (int i = 0; i < inputs.length; i++) {
            x.input(0, inputs[i]);
            x.scan(1);
            boolean before = i > 0 && inputs[i - 1];
            check.same("rise " + i, x.power(0, 0, 0), inputs[i] && !before);
            check.same("fall " + i, x.power(0, 1, 0), !inputs[i] && before);
        }
        ScanForge y = new ScanForge();
        y.cell(0, 0, 0, Rig.RISE, 0);
        y.input(0, true);
        y.scan(1);
        check.same("off at first", y.power(0, 0, 0), true);
    }

    private static void edgesAreSeenWithoutPower(Check check) {
        ScanForge x = new ScanForge();
        x.cell(0, 0, 0, Rig.CONTACT, 1);
        x.cell(0, 0, 1, Rig.RISE, 0);
        x.cell(0, 1, 0, Rig.CONTACT, 1);
        x.cell(0, 1, 1, Rig.FALL, 0);
        x.input(0, true);
        x.scan(1);
        check.same("rise without power", x.power(0, 0, 1), false);
        x.input(1, true);
        x.scan(1);
        check.same("rise is over", x.power(0, 0, 1), false);
        x.input(1, false);
        x.input(0, false);
        x.scan(1);
        check.same("fall without power", x.power(0, 1, 1), false);
        x.input(1, true);
        x.scan(1);
        check.same("fall is over", x.power(0, 1, 1), false);
    }

    private static void aChangedCellForgets(Check check) {
        ScanForge x = new ScanForge();
        x.cell(0, 0, 0, Rig.RISE, 0);
        x.cell(0, 1, 0, Rig.FALL, 0);
        x.input(0, true);
        x.scan(2);
        check.same("no rise", x.power(0, 0, 0), false);
        check.same("rise again", x.cell(0, 0, 0, Rig.RISE, 0), Rig.RISE);
        x.scan(1);
        check.same("as if not looked at", x.power(0, 0, 0), true);
        x.cell(0, 1, 0, Rig.FALL, 0);
        x.input(0, false);
        x.scan(1);
        check.same("no fall", x.power(0, 1, 0), false);
    }

    private static void eachCellRemembersForItself(Check check) {
        ScanForge x = new ScanForge();
        x.cell(0, 0, 0, Rig.RISE, 0);
        x.input(0, true);
        x.scan(1);
        x.cell(4, 0, 0, Rig.RISE, 0);
        x.scan(1);
        check.same("older cell", x.power(0, 0, 0), false);
        check.same("newer cell", x.power(4, 0, 0), true);
    }

    private static void eachBitCanBeLookedAt(Check check) {
        for (int bit = 8; bit < 24; bit++) {
            ScanForge x = new ScanForge();
            Rig.wires(x, 0, 0);
            x.coil(0, 0, Rig.OUT, bit);
            x.cell(1, 0, 0, Rig.CONTACT, bit);
            x.cell(1, 1, 0, Rig.CONTACT, bit == 23 ? 8 : bit + 1);
            x.scan(1);
            check.same("contact of " + bit, x.power(1, 0, 0), true);
            check.same("contact of another than " + bit, x.power(1, 1, 0), false);
        }
    }

    private static void wrongNumbers(Check check) {
        ScanForge x = new ScanForge();
        for (int kind : new int[] {-1, 6, Integer.MIN_VALUE, Integer.MAX_VALUE}) {
            check.raises("kind " + kind, Check.BAD_NUMBER, () -> x.cell(0, 0, 0, kind, 0));
            check.raises("kind first " + kind, Check.BAD_NUMBER, () -> x.cell(-1, 0, 0, kind, 0));
        }
        for (int kind = 2; kind < 6; kind++) {
            int k = kind;
            for (int bit : new int[] {-1, 24, Integer.MIN_VALUE, Integer.MAX_VALUE}) {
                check.raises("bit " + bit, Check.BAD_NUMBER, () -> x.cell(0, 0, 0, k, bit));
                check.raises("bit first " + bit, Check.BAD_NUMBER, () -> x.cell(5, 3, 4, k, bit));
            }
        }
        check.same("wire of any bit", x.cell(0, 0, 0, 1, -1), 0);
        check.same("open of any bit", x.cell(0, 0, 0, 0, Integer.MAX_VALUE), 1);
        check.same("wire of a far bit", x.cell(0, 0, 0, 1, Integer.MIN_VALUE), 0);
        check.same("scan with it", x.scan(1), 1);
    }

    private static void wrongPlaces(Check check) {
        ScanForge x = new ScanForge();
        for (int i : new int[] {-1, 5, Integer.MIN_VALUE, Integer.MAX_VALUE}) {
            check.raises("rung " + i, Check.BAD_PLACE, () -> x.cell(i, 0, 0, 1, 0));
            check.raises("row " + i, Check.BAD_PLACE, () -> x.cell(0, i, 0, 1, 0));
            check.raises("column " + i, Check.BAD_PLACE, () -> x.cell(0, 0, i, 1, 0));
        }
        check.raises("row 3", Check.BAD_PLACE, () -> x.cell(0, 3, 0, 1, 0));
        check.raises("column 4", Check.BAD_PLACE, () -> x.cell(0, 0, 4, 1, 0));
        check.same("last place", x.cell(4, 2, 3, 5, 23), 0);
    }

    private static void refusedCallsChangeNothing(Check check) {
        ScanForge x = new ScanForge();
        x.cell(0, 0, 0, Rig.RISE, 0);
        x.input(0, true);
        x.scan(1);
        check.raises("bit", Check.BAD_NUMBER, () -> x.cell(0, 0, 0, Rig.RISE, 24));
        x.scan(1);
        check.same("still remembered", x.power(0, 0, 0), false);
        check.same("kind stays", x.cell(0, 0, 0, 0, 0), Rig.RISE);
    }
}
