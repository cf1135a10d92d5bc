/** Promise 12. */
public final class RegisterTest {
    public static void main(String[] args) {
        Check check = new Check();
        tellsEachRegisterAlone(check);
        registerIsFromZeroToSeven(check);
        check.end("RegisterTest");
    }

    private static void tellsEachRegisterAlone(Check check) {
        for (int changed = 0; changed < 8; changed++) {
            ScanForge x = new ScanForge();
            x.set(changed, -2.5);
            for (int i = 0; i < 8; i++) {
                check.same(changed + " was set, register " + i, x.register(i), i == changed ? -2.5 : 0.0);
            }
        }
    }

    // "register ... throws IndexOutOfBoundsException", for "REGISTERS 0 to 7"
    private static void registerIsFromZeroToSeven(Check check) {
        ScanForge x = new ScanForge();
        Edges.places(check, "register", 0, 7, i -> x.register(i));
    }
}
