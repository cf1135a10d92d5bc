/** All promises: a call that throws because of its numbers, its place or a halt changes nothing. */
public final class RefusedCallsTest {
    public static void main(String[] args) {
        Check check = new Check();
        refusedWhileItRuns(check);
        refusedWhileHalted(check);
        check.end("RefusedCallsTest");
    }

    /** Edges are remembered, a delay and a counter are half way, a regulator has a sum. */
    private static ScanForge busy() {
        ScanForge x = new ScanForge();
        Rig.row(x, 0, 0, Rig.CONTACT, 0);
        x.coil(0, 0, Rig.BLOCK, 0);
        x.block(0, Rig.DELAY, 0, 0, 8, 4);
        Rig.row(x, 0, 1, Rig.RISE, 1);
        x.coil(0, 1, Rig.BLOCK, 1);
        x.block(1, Rig.COUNTER, 0, 0, 9, 3);
        Rig.row(x, 1, 0, Rig.INVERSE, 2);
        x.link(1, 0, 3, true);
        x.coil(1, 1, Rig.BLOCK, 2);
        x.block(2, Rig.REGULATOR, 0, 1, 2, 0.5);
        Rig.row(x, 4, 2, Rig.FALL, 1);
        x.coil(4, 2, Rig.SET, 23);
        x.coil(4, 0, Rig.BLOCK, 7);
        x.block(7, Rig.DIV, 3, 4, 5, 0);
        x.guard(2, true);
        x.set(1, 40);
        x.input(0, true);
        x.input(1, true);
        x.scan(2);
        return x;
    }

    private static void refuseAll(Check check, ScanForge x) {
        for (int i : new int[] {-1, 8}) {
            check.raises("rung of cell", Check.BAD_PLACE, () -> x.cell(i, 0, 0, Rig.WIRE, 0));
            check.raises("row of cell", Check.BAD_PLACE, () -> x.cell(0, i, 0, Rig.WIRE, 0));
            check.raises("column of cell", Check.BAD_PLACE, () -> x.cell(0, 0, i, Rig.WIRE, 0));
            check.raises("kind of cell", Check.BAD_NUMBER, () -> x.cell(0, 1, 0, i, 0));
            check.raises("rung of link", Check.BAD_PLACE, () -> x.link(i, 0, 0, true));
            check.raises("row of link", Check.BAD_PLACE, () -> x.link(1, i, 3, false));
            check.raises("column of link", Check.BAD_PLACE, () -> x.link(1, 0, i, true));
            check.raises("rung of coil", Check.BAD_PLACE, () -> x.coil(i, 0, Rig.SET, 20));
            check.raises("row of coil", Check.BAD_PLACE, () -> x.coil(0, i, Rig.SET, 20));
            check.raises("kind of coil", Check.BAD_NUMBER, () -> x.coil(0, 0, i, 20));
            check.raises("block of coil", Check.BAD_NUMBER, () -> x.coil(0, 0, Rig.BLOCK, i));
            check.raises("block", Check.BAD_PLACE, () -> x.block(i, Rig.DELAY, 0, 0, 8, 1));
            check.raises("register of block", Check.BAD_NUMBER, () -> x.block(0, Rig.ADD, i, 0, 0, 0));
            check.raises("guard", Check.BAD_PLACE, () -> x.guard(i, true));
            check.raises("input", Check.BAD_PLACE, () -> x.input(i, true));
            check.raises("set", Check.BAD_PLACE, () -> x.set(i, 1));
            check.raises("register", Check.BAD_PLACE, () -> x.register(i));
            check.raises("power", Check.BAD_PLACE, () -> x.power(0, i, 0));
            check.raises("told", Check.BAD_PLACE, () -> x.told(i, 0));
            check.raises("what of told", Check.BAD_NUMBER, () -> x.told(0, i));
            check.raises("count", Check.BAD_NUMBER, () -> x.count(i));
        }
        check.raises("bit of cell", Check.BAD_NUMBER, () -> x.cell(0, 1, 0, Rig.RISE, 24));
        check.raises("bit of coil", Check.BAD_NUMBER, () -> x.coil(0, 0, Rig.OUT, 7));
        check.raises("count of a block", Check.BAD_NUMBER, () -> x.block(0, Rig.DELAY, 0, 0, 8, 0));
        check.raises("whole number of a block", Check.BAD_NUMBER, () -> x.block(1, Rig.COUNTER, 0, 0, 9, 2.5));
        check.raises("bit of a block", Check.BAD_NUMBER, () -> x.block(1, Rig.COUNTER, 0, 0, 22, 3));
        check.raises("setting of a block", Check.BAD_NUMBER, () -> x.block(2, Rig.REGULATOR, 0, 1, 2, 1001));
        check.raises("kind of a block", Check.BAD_NUMBER, () -> x.block(2, 10, 0, 1, 2, 1));
        check.raises("no number", Check.BAD_NUMBER, () -> x.set(1, Double.NaN));
        check.raises("value", Check.BAD_NUMBER, () -> x.set(1, -2e12));
        check.raises("no scan", Check.BAD_NUMBER, () -> x.scan(0));
        check.raises("too many scans", Check.BAD_NUMBER, () -> x.scan(51));
        check.raises("bit", Check.BAD_PLACE, () -> x.bit(24));
    }

    private static void refusedWhileItRuns(Check check) {
        ScanForge x = busy();
        ScanForge y = busy();
        refuseAll(check, x);
        compare(check, "at once", x, y);
        for (int i = 0; i < 6; i++) {
            x.input(1, i % 2 == 1);
            y.input(1, i % 2 == 1);
            check.same("scan", x.scan(1), y.scan(1));
        }
        compareBuilt(check, x, y);
        compareValues(check, "after scans", x, y);
    }

    private static void refusedWhileHalted(Check check) {
        ScanForge x = halted();
        ScanForge y = halted();
        refuseAll(check, x);
        check.raises("halted", Check.HALTED, () -> x.scan(1));
        check.raises("halted for long", Check.HALTED, () -> x.scan(50));
        compare(check, "while halted", x, y);
        check.same("the block that halted", x.resume(), y.resume());
        x.input(1, false);
        y.input(1, false);
        x.set(4, 2);
        y.set(4, 2);
        check.same("scan", x.scan(3), y.scan(3));
        compareBuilt(check, x, y);
        compareValues(check, "after resume", x, y);
    }

    private static ScanForge halted() {
        ScanForge x = busy();
        Rig.wires(x, 4, 0);
        Rig.halts(x);
        return x;
    }

    private static void compare(Check check, String when, ScanForge x, ScanForge y) {
        compareValues(check, when, x, y);
        for (int i = 0; i < 75; i++) {
            boolean due = y.power(i / 15, i / 5 % 3, i % 5 - 1);
            check.same(when + ", power " + i, x.power(i / 15, i / 5 % 3, i % 5 - 1), due);
        }
    }

    private static void compareValues(Check check, String when, ScanForge x, ScanForge y) {
        for (int i = 0; i < 24; i++) {
            check.same(when + ", bit " + i, x.bit(i), y.bit(i));
        }
        for (int i = 0; i < 8; i++) {
            check.same(when + ", register " + i, x.register(i), y.register(i));
            for (int what = 0; what < 5; what++) {
                check.same(when + ", told " + i + " " + what, x.told(i, what), y.told(i, what));
            }
        }
        for (int what = 0; what < 4; what++) {
            check.same(when + ", count " + what, x.count(what), y.count(what));
        }
    }

    /** Clears all that was built, and compares the answers: what it was. */
    private static void compareBuilt(Check check, ScanForge x, ScanForge y) {
        for (int i = 0; i < 60; i++) {
            int due = y.cell(i / 12, i / 4 % 3, i % 4, 0, 0);
            check.same("cell " + i, x.cell(i / 12, i / 4 % 3, i % 4, 0, 0), due);
        }
        for (int i = 0; i < 15; i++) {
            check.same("coil " + i, x.coil(i / 3, i % 3, 0, 0), y.coil(i / 3, i % 3, 0, 0));
        }
        check.same("link", x.link(1, 0, 3, false), y.link(1, 0, 3, false));
        check.same("link at first", x.link(0, 0, 0, false), y.link(0, 0, 0, false));
    }
}
