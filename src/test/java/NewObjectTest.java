/** Promise 1, and what 'Terms' says is so at first. */
public final class NewObjectTest {
    public static void main(String[] args) {
        Check check = new Check();
        bitsAreOff(check);
        registersAreZero(check);
        cellsAreOpen(check);
        openCellsLetNothingThrough(check);
        thereAreNoLinks(check);
        noLinkSharesPower(check);
        thereAreNoCoils(check);
        noCoilRunsABlock(check);
        noBlockIsGuarded(check);
        aFaultOfANewBlockHalts(check);
        blocksAreOfKindZero(check);
        nothingIsCounted(check);
        itIsNotHalted(check);
        objectsAreApart(check);
        check.end("NewObjectTest");
    }

    // "BITS 0 to 23 are off at first"
    private static void bitsAreOff(Check check) {
        ScanForge x = new ScanForge();
        for (int i = 0; i < 24; i++) {
            check.same("bit " + i, x.bit(i), false);
        }
        x.scan(1);
        check.same("bits on after a scan", x.count(2), 0);
    }

    // "REGISTERS 0 to 7 are doubles, 0 at first"
    private static void registersAreZero(Check check) {
        ScanForge x = new ScanForge();
        for (int i = 0; i < 8; i++) {
            check.same("register " + i, x.register(i), 0.0);
        }
    }

    // "All CELLS are OPEN"
    private static void cellsAreOpen(Check check) {
        ScanForge x = new ScanForge();
        for (int i = 0; i < 60; i++) {
            check.same("cell " + i, x.cell(i / 12, i / 4 % 3, i % 4, Rig.OPEN, 0), Rig.OPEN);
        }
    }

    private static void openCellsLetNothingThrough(Check check) {
        ScanForge x = new ScanForge();
        x.input(0, true);
        x.scan(2);
        for (int i = 0; i < 60; i++) {
            check.same("power " + i, x.power(i / 12, i / 4 % 3, i % 4), false);
        }
    }

    // "without LINKS and COILS"
    private static void thereAreNoLinks(Check check) {
        ScanForge x = new ScanForge();
        for (int i = 0; i < 40; i++) {
            check.same("link " + i, x.link(i / 8, i / 4 % 2, i % 4, false), false);
        }
    }

    private static void noLinkSharesPower(Check check) {
        for (int g = 0; g < 5; g++) {
            ScanForge x = new ScanForge();
            Rig.wires(x, g, 1);
            x.scan(1);
            for (int column = 0; column < 4; column++) {
                check.same("row 0 behind " + column, x.power(g, 0, column), false);
                check.same("row 1 behind " + column, x.power(g, 1, column), true);
                check.same("row 2 behind " + column, x.power(g, 2, column), false);
            }
        }
    }

    private static void thereAreNoCoils(Check check) {
        ScanForge x = new ScanForge();
        for (int i = 0; i < 15; i++) {
            check.same("coil " + i, x.coil(i / 3, i % 3, 0, 0), 0);
        }
    }

    private static void noCoilRunsABlock(Check check) {
        ScanForge x = new ScanForge();
        for (int i = 0; i < 15; i++) {
            Rig.wires(x, i / 3, i % 3);
        }
        x.scan(1);
        check.same("bits on", x.count(2), 0);
        for (int k = 0; k < 8; k++) {
            check.same("runs " + k, x.told(k, 3), 0);
        }
    }

    // "no BLOCK is GUARDED"
    private static void noBlockIsGuarded(Check check) {
        ScanForge x = new ScanForge();
        for (int k = 0; k < 8; k++) {
            check.same("told " + k, x.told(k, 2), 0);
            check.same("guard " + k, x.guard(k, false), false);
        }
    }

    private static void aFaultOfANewBlockHalts(Check check) {
        for (int k = 0; k < 8; k++) {
            ScanForge x = new ScanForge();
            Rig.wires(x, 0, 0);
            x.coil(0, 0, Rig.BLOCK, k);
            x.block(k, Rig.DIV, 0, 1, 2, 0);
            check.same("halts " + k, Rig.halts(x), true);
        }
    }

    // "BLOCKS are of a KIND, at first 0"
    private static void blocksAreOfKindZero(Check check) {
        ScanForge x = new ScanForge();
        for (int k = 0; k < 8; k++) {
            check.same("told " + k, x.told(k, 0), 0);
            check.same("block " + k, x.block(k, 0, 0, 0, 0, 0), 0);
        }
    }

    private static void nothingIsCounted(Check check) {
        ScanForge x = new ScanForge();
        for (int what = 0; what < 4; what++) {
            check.same("count " + what, x.count(what), 0);
        }
        for (int k = 0; k < 8; k++) {
            check.same("counted " + k, x.told(k, 1), 0);
            check.same("runs " + k, x.told(k, 3), 0);
            check.same("faults " + k, x.told(k, 4), 0);
        }
    }

    private static void itIsNotHalted(Check check) {
        check.same("resume", new ScanForge().resume(), -1);
        check.same("halted", new ScanForge().count(1), 0);
        check.same("first scan", new ScanForge().scan(1), 1);
    }

    private static void objectsAreApart(Check check) {
        ScanForge x = new ScanForge();
        ScanForge y = new ScanForge();
        x.input(0, true);
        x.set(0, 1.0);
        x.guard(0, true);
        x.cell(0, 0, 0, 1, 0);
        x.scan(1);
        check.same("other bit", y.bit(0), false);
        check.same("other register", y.register(0), 0.0);
        check.same("other guard", y.told(0, 2), 0);
        check.same("other cell", y.cell(0, 0, 0, 0, 0), 0);
        check.same("other scans", y.count(0), 0);
    }
}
