/** Promise 11. */
public final class BitTest {
    public static void main(String[] args) {
        Check check = new Check();
        tellsEachBitAlone(check);
        readingChangesNothing(check);
        bitIsFromZeroTo23(check);
        check.end("BitTest");
    }

    private static void tellsEachBitAlone(Check check) {
        for (int on = 0; on < 24; on++) {
            ScanForge x = new ScanForge();
            if (on < 8) {
                x.input(on, true);
            } else {
                Rig.wires(x, 0, 0);
                x.coil(0, 0, Rig.OUT, on);
                x.scan(1);
            }
            for (int i = 0; i < 24; i++) {
                check.same(on + " is on, bit " + i, x.bit(i), i == on);
            }
        }
    }

    private static void readingChangesNothing(Check check) {
        ScanForge x = Rig.withBlock(Rig.COUNTER, 0, 0, 8, 2);
        x.cell(1, 0, 0, Rig.RISE, 1);
        x.input(1, true);
        for (int i = 0; i < 3; i++) {
            x.bit(1);
            x.register(0);
            x.power(1, 0, 0);
            x.told(0, 1);
            x.count(2);
        }
        x.scan(1);
        check.same("rise", x.power(1, 0, 0), true);
        check.same("counted", x.told(0, 1), 1);
    }

    // "bit ... throws IndexOutOfBoundsException", for "BITS 0 to 23"
    private static void bitIsFromZeroTo23(Check check) {
        ScanForge x = new ScanForge();
        Edges.places(check, "bit", 0, 23, i -> x.bit(i));
    }
}
