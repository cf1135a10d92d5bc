/** Promise 6, and what a FAULT does to a BLOCK that is GUARDED. */
public final class GuardTest {
    public static void main(String[] args) {
        Check check = new Check();
        answersWhetherItWas(check);
        aGuardedFaultGoesOn(check);
        otherBlocksAreNotGuarded(check);
        theGuardStaysOn(check);
        blockIsFromZeroToSeven(check);
        aRefusedCallChangesNothing(check);
        check.end("GuardTest");
    }

    private static void answersWhetherItWas(Check check) {
        ScanForge x = new ScanForge();
        for (int k = 0; k < 8; k++) {
            check.same("first", x.guard(k, true), false);
            check.same("again", x.guard(k, true), true);
            check.same("told", x.told(k, 2), 1);
            check.same("away", x.guard(k, false), true);
            check.same("away again", x.guard(k, false), false);
            check.same("told away", x.told(k, 2), 0);
        }
    }

    private static void aGuardedFaultGoesOn(Check check) {
        ScanForge x = Rig.withBlock(Rig.DIV, 0, 1, 2, 0);
        Rig.wires(x, 0, 1);
        x.coil(0, 1, Rig.OUT, 8);
        Rig.wires(x, 4, 2);
        x.coil(4, 2, Rig.OUT, 15);
        x.set(2, 9);
        x.guard(0, true);
        check.same("scan", x.scan(3), 3);
        check.same("guard bit", x.bit(23), true);
        check.same("register stays", x.register(2), 9.0);
        check.same("next coil", x.bit(8), true);
        check.same("last coil", x.bit(15), true);
        check.same("not halted", x.count(1), 0);
        check.same("faults in all", x.count(3), 3);
        check.same("faults of the block", x.told(0, 4), 3);
        check.same("nobody halted it", x.resume(), -1);
    }

    private static void otherBlocksAreNotGuarded(Check check) {
        ScanForge x = Rig.withBlock(Rig.DIV, 0, 1, 2, 0);
        x.guard(1, true);
        check.same("halts", Rig.halts(x), true);
        check.same("guard bit stays off", x.bit(23), false);
        x.resume();
        x.guard(0, true);
        check.same("goes on", Rig.halts(x), false);
        x.guard(0, false);
        check.same("halts again", Rig.halts(x), true);
    }

    private static void theGuardStaysOn(Check check) {
        ScanForge x = Rig.withBlock(Rig.DIV, 0, 1, 2, 0);
        x.guard(0, true);
        x.scan(1);
        x.set(1, 2);
        x.scan(1);
        check.same("guard bit stays", x.bit(23), true);
        Rig.wires(x, 1, 0);
        x.coil(1, 0, Rig.RESET, 23);
        x.scan(1);
        check.same("guard bit is reset by a coil", x.bit(23), false);
        ScanForge y = Rig.withBlock(Rig.DIV, 0, 1, 2, 0);
        y.guard(0, true);
        y.set(1, 1);
        y.scan(1);
        check.same("no fault, no guard bit", y.bit(23), false);
    }

    // "guard ... throws IndexOutOfBoundsException", for BLOCKS "0 to 7"
    private static void blockIsFromZeroToSeven(Check check) {
        ScanForge x = new ScanForge();
        Edges.places(check, "block on", 0, 7, k -> x.guard(k, true));
        Edges.places(check, "block off", 0, 7, k -> x.guard(k, false));
    }

    private static void aRefusedCallChangesNothing(Check check) {
        ScanForge x = new ScanForge();
        check.raises("block -1", Check.BAD_PLACE, () -> x.guard(-1, true));
        check.raises("block 8", Check.BAD_PLACE, () -> x.guard(8, true));
        for (int k = 0; k < 8; k++) {
            check.same("not guarded " + k, x.guard(k, true), false);
        }
        check.raises("block -1", Check.BAD_PLACE, () -> x.guard(-1, false));
        check.raises("block 8", Check.BAD_PLACE, () -> x.guard(8, false));
        for (int k = 0; k < 8; k++) {
            check.same("guarded " + k, x.told(k, 2), 1);
        }
    }
}
