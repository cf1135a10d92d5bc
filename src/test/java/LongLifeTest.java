/** "An object is used for at most 512 calls": what it answers holds to the last of them. */
public final class LongLifeTest {
    private static final int CALLS = 512;

    public static void main(String[] args) {
        Check check = new Check();
        scansToTheLastCall(check);
        countsToTheLastCall(check);
        faultsToTheLastCall(check);
        check.end("LongLifeTest");
    }

    private static void scansToTheLastCall(Check check) {
        ScanForge x = new ScanForge();
        for (int call = 1; call <= CALLS; call++) {
            check.same("call " + call, x.scan(50), call * 50L);
        }
    }

    private static void countsToTheLastCall(Check check) {
        ScanForge x = Rig.withBlock(Rig.DELAY, 0, 0, 8, 1000);
        int calls = 7;
        for (int scans = 0; calls < CALLS - 2; calls++) {
            scans += 50;
            check.same("scan", x.scan(50), scans);
        }
        check.same("runs", x.told(0, 3), (CALLS - 9) * 50L);
        check.same("bit, the last call", x.bit(8), true);
    }

    private static void faultsToTheLastCall(Check check) {
        ScanForge x = new ScanForge();
        for (int row = 0; row < 3; row++) {
            Rig.wires(x, 0, row);
            x.coil(0, row, Rig.BLOCK, 0);
        }
        x.block(0, Rig.DIV, 0, 1, 2, 0);
        x.guard(0, true);
        int calls = 17;
        for (; calls < CALLS - 2; calls++) {
            x.scan(50);
        }
        check.same("faults of the block", x.told(0, 4), (CALLS - 19) * 150L);
        check.same("faults in all, the last call", x.count(3), (CALLS - 19) * 150L);
    }
}
