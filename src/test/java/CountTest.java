/** Promise 15. */
public final class CountTest {
    public static void main(String[] args) {
        Check check = new Check();
        countsScans(check);
        tellsWhetherItIsHalted(check);
        countsBitsThatAreOn(check);
        countsFaultsInAll(check);
        whatIsFromZeroToThree(check);
        check.end("CountTest");
    }

    // "0: SCANS"
    private static void countsScans(Check check) {
        ScanForge x = Rig.withBlock(Rig.DIV, 0, 1, 2, 0);
        check.same("none", x.count(0), 0);
        check.raises("no scan", Check.BAD_NUMBER, () -> x.scan(0));
        check.same("still none", x.count(0), 0);
        check.same("halts", Rig.halts(x), true);
        check.same("the scan that halts", x.count(0), 1);
        check.raises("halted", Check.HALTED, () -> x.scan(5));
        check.same("none while halted", x.count(0), 1);
        x.resume();
        check.same("none by resume", x.count(0), 1);
        x.guard(0, true);
        x.scan(50);
        check.same("fifty more", x.count(0), 51);
    }

    // "1: 1 if HALTED"
    private static void tellsWhetherItIsHalted(Check check) {
        ScanForge x = Rig.withBlock(Rig.DIV, 0, 1, 2, 0);
        check.same("not halted", x.count(1), 0);
        x.guard(0, true);
        x.scan(1);
        check.same("not by a guarded fault", x.count(1), 0);
        x.guard(0, false);
        Rig.halts(x);
        check.same("halted", x.count(1), 1);
        x.guard(0, true);
        x.block(0, 0, 0, 0, 0, 0);
        check.same("still halted", x.count(1), 1);
        x.resume();
        check.same("resumed", x.count(1), 0);
    }

    // "2: BITS that are on": none, each more, and all 24
    private static void countsBitsThatAreOn(Check check) {
        ScanForge x = new ScanForge();
        check.same("none", x.count(2), 0);
        for (int i = 0; i < 8; i++) {
            x.input(i, true);
            check.same("inputs to " + i, x.count(2), i + 1);
        }
        Rig.wires(x, 0, 0);
        for (int i = 8; i < 24; i++) {
            x.coil(0, 0, Rig.SET, i);
            x.scan(1);
            check.same("bits to " + i, x.count(2), i + 1);
        }
        x.block(0, Rig.DIV, 0, 1, 2, 0);
        x.coil(0, 0, Rig.BLOCK, 0);
        Rig.halts(x);
        check.same("all but the outputs", x.count(2), 16);
    }

    // "3: FAULTS in all": of all BLOCKS, guarded or not, also of KINDS that they were
    private static void countsFaultsInAll(Check check) {
        ScanForge x = Rig.withBlock(Rig.DIV, 0, 1, 2, 0);
        Rig.wires(x, 1, 0);
        x.coil(1, 0, Rig.BLOCK, 7);
        x.block(7, Rig.LIMIT, 0, 0, 2, -1);
        check.same("none", x.count(3), 0);
        x.guard(0, true);
        Rig.halts(x);
        check.same("a guarded one and one that halts", x.count(3), 2);
        x.block(0, 0, 0, 0, 0, 0);
        x.block(7, 0, 0, 0, 0, 0);
        x.resume();
        check.same("they stay", x.count(3), 2);
        x.scan(1);
        check.same("no more", x.count(3), 2);
    }

    // "IllegalArgumentException for others"
    private static void whatIsFromZeroToThree(Check check) {
        ScanForge x = new ScanForge();
        Edges.numbers(check, "what", 0, 3, what -> x.count(what));
    }
}
