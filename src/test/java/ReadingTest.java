/** Promises 11, 12 and 15: bit, register and count. */
public final class ReadingTest {
    public static void main(String[] args) {
        Check check = new Check();
        bits(check);
        registers(check);
        counts(check);
        readingChangesNothing(check);
        check.end("ReadingTest");
    }

    private static void bits(Check check) {
        ScanForge x = new ScanForge();
        Rig.wires(x, 0, 0);
        x.coil(0, 0, Rig.OUT, 23);
        x.input(0, true);
        x.scan(1);
        for (int i = 0; i < 24; i++) {
            check.same("bit " + i, x.bit(i), i == 0 || i == 23);
        }
        for (int i : new int[] {-1, 24, Integer.MIN_VALUE, Integer.MAX_VALUE}) {
            check.raises("bit " + i, Check.BAD_PLACE, () -> x.bit(i));
        }
    }

    private static void registers(Check check) {
        ScanForge x = new ScanForge();
        for (int i = 0; i < 8; i++) {
            x.set(i, i * 1.5);
        }
        for (int i = 0; i < 8; i++) {
            check.same("register " + i, x.register(i), i * 1.5);
        }
        for (int i : new int[] {-1, 8, Integer.MIN_VALUE, Integer.MAX_VALUE}) {
            check.raises("register " + i, Check.BAD_PLACE, () -> x.register(i));
        }
    }

    private static void counts(Check check) {
        ScanForge x = Rig.withBlock(Rig.DIV, 0, 1, 2, 0);
        Rig.wires(x, 1, 0);
        x.coil(1, 0, Rig.OUT, 12);
        x.guard(0, true);
        x.scan(4);
        check.same("scans", x.count(0), 4);
        check.same("not halted", x.count(1), 0);
        check.same("input 0, 12 and the guard", x.count(2), 3);
        check.same("guarded faults", x.count(3), 4);
        x.guard(0, false);
        Rig.halts(x);
        check.same("the scan that halts", x.count(0), 5);
        check.same("halted", x.count(1), 1);
        check.same("outputs off", x.count(2), 2);
        check.same("faults", x.count(3), 5);
        x.block(0, 0, 0, 0, 0, 0);
        check.same("faults in all stay", x.count(3), 5);
        x.resume();
        check.same("resumed", x.count(1), 0);
        for (int what : new int[] {-1, 4, Integer.MIN_VALUE, Integer.MAX_VALUE}) {
            check.raises("count " + what, Check.BAD_NUMBER, () -> x.count(what));
        }
    }

    private static void readingChangesNothing(Check check) {
        ScanForge x = Rig.withBlock(Rig.COUNTER, 0, 0, 8, 2);
        x.cell(1, 0, 0, Rig.RISE, 1);
        x.input(1, true);
        for (int i = 0; i < 3; i++) {
            x.bit(1);
            x.register(0);
            x.power(1, 0, 0);
            x.told(0, 1);
            x.count(2);
        }
        x.scan(1);
        check.same("rise", x.power(1, 0, 0), true);
        check.same("counted", x.told(0, 1), 1);
    }
}
