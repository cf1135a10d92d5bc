/** Promise 10. */
public final class ResumeTest {
    public static void main(String[] args) {
        Check check = new Check();
        answersMinusOneIfItWasNotHalted(check);
        for (int k = 0; k < 8; k++) {
            answersTheBlockThatHalted(check, k);
        }
        keepsTheState(check);
        remembersTheBlockThatHalted(check);
        answersTheLatestBlockThatHalted(check);
        check.end("ResumeTest");
    }

    // "-1 if it was not"
    private static void answersMinusOneIfItWasNotHalted(Check check) {
        ScanForge x = Rig.withBlock(Rig.DIV, 0, 1, 2, 0);
        check.same("new", x.resume(), -1);
        x.guard(0, true);
        x.scan(1);
        check.same("guarded fault", x.resume(), -1);
        check.raises("refused scan", Check.BAD_NUMBER, () -> x.scan(51));
        check.same("refused", x.resume(), -1);
        x.guard(0, false);
        Rig.halts(x);
        check.raises("halted", Check.HALTED, () -> x.scan(1));
        check.same("halted", x.resume(), 0);
        check.same("not twice", x.resume(), -1);
    }

    // "the BLOCK that halted it", also 0 and 7
    private static void answersTheBlockThatHalted(Check check, int k) {
        ScanForge x = new ScanForge();
        Rig.wires(x, 0, 0);
        x.coil(0, 0, Rig.BLOCK, k);
        x.block(k, Rig.DIV, 0, 1, 2, 0);
        check.same("halts", Rig.halts(x), true);
        check.same("the block " + k, x.resume(), k);
        check.same("not halted", x.count(1), 0);
        check.same("not twice", x.resume(), -1);
        x.set(1, 1);
        check.same("scans again", x.scan(1), 2);
        x.set(1, 0);
        check.same("halts again", Rig.halts(x), true);
        check.same("the block again", x.resume(), k);
    }

    private static void keepsTheState(Check check) {
        ScanForge x = Rig.withBlock(Rig.DIV, 0, 1, 2, 0);
        x.set(0, 5);
        Rig.halts(x);
        x.resume();
        check.same("scans", x.count(0), 1);
        check.same("faults", x.count(3), 1);
        check.same("input", x.bit(0), true);
        check.same("register", x.register(0), 5.0);
        check.same("runs", x.told(0, 3), 1);
    }

    private static void remembersTheBlockThatHalted(Check check) {
        ScanForge x = new ScanForge();
        Rig.wires(x, 0, 0);
        Rig.wires(x, 0, 1);
        x.coil(0, 0, Rig.BLOCK, 1);
        x.coil(0, 1, Rig.BLOCK, 2);
        x.block(1, Rig.DIV, 0, 1, 2, 0);
        x.block(2, Rig.DIV, 0, 1, 2, 0);
        x.guard(1, true);
        check.same("halts", Rig.halts(x), true);
        x.block(2, 0, 0, 0, 0, 0);
        x.guard(2, true);
        check.same("still halted", x.count(1), 1);
        check.same("not the guarded one", x.resume(), 2);
    }

    private static void answersTheLatestBlockThatHalted(Check check) {
        ScanForge x = Rig.withBlock(Rig.DIV, 0, 1, 2, 0);
        Rig.wires(x, 4, 2);
        x.coil(4, 2, Rig.BLOCK, 7);
        x.block(7, Rig.DIV, 0, 1, 2, 0);
        Rig.halts(x);
        check.same("the first", x.resume(), 0);
        x.input(0, false);
        Rig.halts(x);
        check.same("the other", x.resume(), 7);
    }
}
