/** Promise 9: what a FAULT does, of a BLOCK that is GUARDED and of another one. */
public final class FaultTest {
    /** Kind, a, b and n of a BLOCK that has a FAULT. */
    private static final double[][] FAULTS = {{4, 1e12, 1, 0}, {5, -1e12, 1, 0}, {6, 1e12, 2, 0}, {7, 1, 0, 0},
        {7, 1e12, 0.5, 0}, {8, 0, 1, 0}, {9, 0, 1e12, 1}};

    public static void main(String[] args) {
        Check check = new Check();
        for (double[] f : FAULTS) {
            haltsUnlessGuarded(check, f);
            goesOnIfGuarded(check, f);
            needsPower(check, f);
        }
        ofTheFirstCoil(check);
        ofTheLastCoil(check);
        allOutputsAreOff(check);
        outputsOfTheSameScanAreOff(check);
        theGuardIsSeenInTheSameScan(check);
        theGuardIsOnForGuardedFaultsAlone(check);
        twoInOneScan(check);
        guardingWhileHaltedDoesNotResume(check);
        check.end("FaultTest");
    }

    private static ScanForge faulty(double[] f) {
        ScanForge x = Rig.withBlock((int) f[0], 0, 1, 2, f[3]);
        x.set(0, f[1]);
        x.set(1, f[2]);
        x.set(2, 5);
        Rig.wires(x, 0, 1);
        x.coil(0, 1, Rig.OUT, 16);
        Rig.wires(x, 4, 2);
        x.coil(4, 2, Rig.OUT, 8);
        return x;
    }

    // "Of another one: all OUTPUTS are off, the scan ends there, and the controller is HALTED."
    private static void haltsUnlessGuarded(Check check, double[] f) {
        ScanForge x = faulty(f);
        String kind = "kind " + f[0];
        check.raises(kind, Check.FAULT, () -> x.scan(1));
        check.same(kind + " guard stays off", x.bit(23), false);
        check.same(kind + " next coil", x.bit(16), false);
        check.same(kind + " last coil", x.bit(8), false);
        check.same(kind + " register stays", x.register(2), 5.0);
        check.same(kind + " halted", x.count(1), 1);
        check.same(kind + " faults", x.told(0, 4), 1);
        check.same(kind + " faults in all", x.count(3), 1);
        check.raises(kind + " halted", Check.HALTED, () -> x.scan(1));
    }

    // "A FAULT of a BLOCK that is GUARDED: the GUARD is on, REGISTER c stays, and it goes on."
    private static void goesOnIfGuarded(Check check, double[] f) {
        ScanForge x = faulty(f);
        String kind = "guarded kind " + f[0];
        x.guard(0, true);
        check.same(kind, x.scan(1), 1);
        check.same(kind + " guard", x.bit(23), true);
        check.same(kind + " next coil", x.bit(16), true);
        check.same(kind + " last coil", x.bit(8), true);
        check.same(kind + " register stays", x.register(2), 5.0);
        check.same(kind + " not halted", x.count(1), 0);
        check.same(kind + " faults", x.told(0, 4), 1);
        check.same(kind + " faults in all", x.count(3), 1);
        check.same(kind + " next scan", x.scan(1), 2);
    }

    private static void needsPower(Check check, double[] f) {
        ScanForge x = faulty(f);
        x.input(0, false);
        check.same("kind " + f[0] + " without power", Rig.halts(x), false);
        check.same("no fault", x.count(3), 0);
    }

    private static ScanForge wired() {
        ScanForge x = new ScanForge();
        for (int i = 0; i < 15; i++) {
            Rig.wires(x, i / 3, i % 3);
            // Bits 9 to 23, so that the coils before the fault can be told from those behind it.
            x.coil(i / 3, i % 3, Rig.SET, 9 + i);
        }
        x.block(0, Rig.DIV, 0, 1, 2, 0);
        return x;
    }

    // "the scan ends there"
    private static void ofTheFirstCoil(Check check) {
        ScanForge x = wired();
        x.coil(0, 0, Rig.BLOCK, 0);
        check.same("halts", Rig.halts(x), true);
        check.same("no coil behind it", x.count(2), 0);
        check.same("its rung was looked at", x.power(0, 2, 3), true);
        check.same("the next one was not", x.power(1, 0, -1), false);
        check.same("that scan counts", x.count(0), 1);
    }

    private static void ofTheLastCoil(Check check) {
        ScanForge x = wired();
        x.coil(4, 2, Rig.BLOCK, 0);
        check.same("halts", Rig.halts(x), true);
        for (int i = 16; i < 23; i++) {
            check.same("coil before it " + i, x.bit(i), true);
        }
        check.same("all but the outputs", x.count(2), 7);
        check.same("the last rung was looked at", x.power(4, 2, 3), true);
        check.same("that scan counts", x.count(0), 1);
    }

    // "8 to 15 OUTPUTS", "all OUTPUTS are off"
    private static void allOutputsAreOff(Check check) {
        ScanForge x = new ScanForge();
        for (int i = 0; i < 8; i++) {
            x.input(i, true);
        }
        Rig.wires(x, 0, 0);
        for (int i = 8; i < 24; i++) {
            x.coil(0, 0, Rig.SET, i);
            x.scan(1);
        }
        check.same("all are on", x.count(2), 24);
        x.coil(0, 0, Rig.BLOCK, 0);
        x.block(0, Rig.DIV, 0, 1, 2, 0);
        check.same("halts", Rig.halts(x), true);
        for (int i = 0; i < 24; i++) {
            check.same("bit " + i, x.bit(i), i < 8 || i > 15);
        }
    }

    private static void outputsOfTheSameScanAreOff(Check check) {
        ScanForge x = wired();
        x.coil(2, 2, Rig.BLOCK, 0);
        check.same("halts", Rig.halts(x), true);
        for (int i = 8; i < 24; i++) {
            check.same("bit " + i, x.bit(i), i == 16);
        }
        x.resume();
        x.guard(0, true);
        x.scan(1);
        check.same("on again, with the guard", x.count(2), 14);
    }

    private static void theGuardIsSeenInTheSameScan(Check check) {
        ScanForge x = Rig.withBlock(Rig.DIV, 0, 1, 2, 0);
        x.guard(0, true);
        Rig.row(x, 0, 1, Rig.CONTACT, 23);
        x.coil(0, 1, Rig.SET, 16);
        Rig.row(x, 1, 0, Rig.CONTACT, 23);
        x.coil(1, 0, Rig.SET, 17);
        x.scan(1);
        check.same("not in its rung, looked at before", x.bit(16), false);
        check.same("in the next rung", x.bit(17), true);
    }

    private static void theGuardIsOnForGuardedFaultsAlone(Check check) {
        ScanForge x = Rig.withBlock(Rig.DIV, 0, 1, 2, 0);
        Rig.halts(x);
        check.same("not guarded", x.bit(23), false);
        x.resume();
        x.guard(0, true);
        x.set(1, 1);
        x.scan(1);
        check.same("no fault", x.bit(23), false);
        x.set(1, 0);
        x.scan(1);
        check.same("guarded fault", x.bit(23), true);
        x.guard(0, false);
        Rig.halts(x);
        check.same("it is no output", x.bit(23), true);
    }

    private static void twoInOneScan(Check check) {
        ScanForge x = Rig.withBlock(Rig.DIV, 0, 1, 2, 0);
        x.guard(0, true);
        Rig.wires(x, 0, 1);
        x.coil(0, 1, Rig.BLOCK, 1);
        x.block(1, Rig.DIV, 0, 1, 2, 0);
        Rig.wires(x, 0, 2);
        x.coil(0, 2, Rig.BLOCK, 2);
        x.block(2, Rig.DIV, 0, 1, 2, 0);
        check.same("halts", Rig.halts(x), true);
        check.same("guard", x.bit(23), true);
        check.same("two faults", x.count(3), 2);
        check.same("the third was not run", x.told(2, 3), 0);
        check.same("the second halted it", x.resume(), 1);
    }

    private static void guardingWhileHaltedDoesNotResume(Check check) {
        ScanForge x = Rig.withBlock(Rig.DIV, 0, 1, 2, 0);
        Rig.halts(x);
        x.guard(0, true);
        check.raises("still halted", Check.HALTED, () -> x.scan(1));
        check.same("guard stays off", x.bit(23), false);
        check.same("the block", x.resume(), 0);
    }
}
