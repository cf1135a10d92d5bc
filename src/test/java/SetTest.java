/** Promise 8. */
public final class SetTest {
    public static void main(String[] args) {
        Check check = new Check();
        answersWhatItWas(check);
        valueIsTakenAsItIs(check);
        valueIsNotBeyond(check);
        valueIsANumber(check);
        registerIsFromZeroToSeven(check);
        numbersComeBeforePlaces(check);
        aRefusedCallChangesNothing(check);
        check.end("SetTest");
    }

    private static void answersWhatItWas(Check check) {
        ScanForge x = new ScanForge();
        for (int i = 0; i < 8; i++) {
            check.same("first " + i, x.set(i, i + 0.25), 0.0);
        }
        for (int i = 0; i < 8; i++) {
            check.same("second " + i, x.set(i, -1), i + 0.25);
        }
    }

    private static void valueIsTakenAsItIs(Check check) {
        ScanForge x = new ScanForge();
        double was = 0;
        double[] values = {1e12, -1e12, Double.MIN_VALUE, -0.0, 0.1, Math.nextDown(1e12), Math.nextUp(-1e12)};
        for (double v : values) {
            check.same("before " + v, x.set(3, v), was);
            check.same("is " + v, x.register(3), v);
            was = v;
        }
    }

    // "IllegalArgumentException if v is ... beyond 1e12 in size"
    private static void valueIsNotBeyond(Check check) {
        ScanForge x = new ScanForge();
        Edges.doubles(check, "value", -1e12, 1e12, v -> x.set(0, v));
        Edges.doubles(check, "value of the last register", -1e12, 1e12, v -> x.set(7, v));
    }

    // "IllegalArgumentException if v is no number"
    private static void valueIsANumber(Check check) {
        ScanForge x = new ScanForge();
        for (int i = 0; i < 8; i++) {
            int register = i;
            check.raises("no number", Check.BAD_NUMBER, () -> x.set(register, Double.NaN));
            check.same("stays 0", x.register(i), 0.0);
        }
    }

    // "set ... throws IndexOutOfBoundsException", for "REGISTERS 0 to 7"
    private static void registerIsFromZeroToSeven(Check check) {
        ScanForge x = new ScanForge();
        Edges.places(check, "register", 0, 7, i -> x.set(i, 0));
        Edges.places(check, "register with the largest", 0, 7, i -> x.set(i, 1e12));
        Edges.places(check, "register with the least", 0, 7, i -> x.set(i, -1e12));
    }

    // "IllegalArgumentException comes before IndexOutOfBoundsException"
    private static void numbersComeBeforePlaces(Check check) {
        ScanForge x = new ScanForge();
        double[] wrong = {Math.nextUp(1e12), Math.nextDown(-1e12), Double.NaN, Double.POSITIVE_INFINITY,
            Double.NEGATIVE_INFINITY};
        for (double v : wrong) {
            for (int i : new int[] {-1, 8, Integer.MIN_VALUE, Integer.MAX_VALUE}) {
                check.raises("register " + i + " to " + v, Check.BAD_NUMBER, () -> x.set(i, v));
            }
        }
    }

    private static void aRefusedCallChangesNothing(Check check) {
        ScanForge x = new ScanForge();
        for (int i = 0; i < 8; i++) {
            x.set(i, 7 + i);
        }
        check.raises("beyond", Check.BAD_NUMBER, () -> x.set(0, 1e13));
        check.raises("no number", Check.BAD_NUMBER, () -> x.set(7, Double.NaN));
        check.raises("register -1", Check.BAD_PLACE, () -> x.set(-1, 1));
        check.raises("register 8", Check.BAD_PLACE, () -> x.set(8, 1));
        for (int i = 0; i < 8; i++) {
            check.same("register " + i, x.register(i), 7.0 + i);
        }
    }
}
