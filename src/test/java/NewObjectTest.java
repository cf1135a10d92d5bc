/** Promise 1, and what 'Terms' says is so at first. */
public final class NewObjectTest {
    public static void main(String[] args) {
        Check check = new Check();
        nothingIsOnOrCounted(check);
        everythingIsOpen(check);
        aScanOfNothingChangesNothing(check);
        objectsAreApart(check);
        check.end("NewObjectTest");
    }

    private static void nothingIsOnOrCounted(Check check) {
        ScanForge x = new ScanForge();
        for (int i = 0; i < 24; i++) {
            check.same("bit " + i, x.bit(i), false);
        }
        for (int i = 0; i < 8; i++) {
            check.same("register " + i, x.register(i), 0.0);
        }
        for (int what = 0; what < 4; what++) {
            check.same("count " + what, x.count(what), 0);
        }
        for (int k = 0; k < 8; k++) {
            for (int what = 0; what < 5; what++) {
                check.same("told " + k + " " + what, x.told(k, what), 0);
            }
        }
        check.same("resume", x.resume(), -1);
    }

    private static void everythingIsOpen(Check check) {
        ScanForge x = new ScanForge();
        for (int g = 0; g < 5; g++) {
            for (int row = 0; row < 3; row++) {
                check.same("coil", x.coil(g, row, 0, 0), 0);
                check.same("power before all", x.power(g, row, -1), false);
                for (int column = 0; column < 4; column++) {
                    check.same("cell", x.cell(g, row, column, 0, 0), 0);
                    check.same("power", x.power(g, row, column), false);
                }
            }
            for (int column = 0; column < 4; column++) {
                check.same("link 0", x.link(g, 0, column, false), false);
                check.same("link 1", x.link(g, 1, column, false), false);
            }
        }
        for (int k = 0; k < 8; k++) {
            check.same("guard", x.guard(k, false), false);
            check.same("block", x.block(k, 0, 0, 0, 0, 0), 0);
        }
    }

    private static void aScanOfNothingChangesNothing(Check check) {
        ScanForge x = new ScanForge();
        check.same("scan", x.scan(1), 1);
        check.same("bits on", x.count(2), 0);
        for (int k = 0; k < 8; k++) {
            check.same("runs", x.told(k, 3), 0);
        }
        for (int row = 0; row < 3; row++) {
            check.same("open cell", x.power(0, row, 0), false);
        }
    }

    private static void objectsAreApart(Check check) {
        ScanForge x = new ScanForge();
        ScanForge y = new ScanForge();
        x.input(0, true);
        x.set(0, 1.0);
        x.guard(0, true);
        x.cell(0, 0, 0, 1, 0);
        x.scan(1);
        check.same("other bit", y.bit(0), false);
        check.same("other register", y.register(0), 0.0);
        check.same("other guard", y.told(0, 2), 0);
        check.same("other cell", y.cell(0, 0, 0, 0, 0), 0);
        check.same("other scans", y.count(0), 0);
    }
}
