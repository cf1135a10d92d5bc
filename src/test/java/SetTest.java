/** Promise 8. */
public final class SetTest {
    public static void main(String[] args) {
        Check check = new Check();
        ScanForge x = new ScanForge();
        for (int i = 0; i < 8; i++) {
            check.same("first " + i, x.set(i, i + 0.25), 0.0);
        }
        for (int i = 0; i < 8; i++) {
            check.same("second " + i, x.set(i, -1), i + 0.25);
        }
        double was = -1;
        for (double v : new double[] {1e12, -1e12, Double.MIN_VALUE, -0.0, 0.1, 999999999999.9999}) {
            check.same("before " + v, x.set(3, v), was);
            check.same("is " + v, x.register(3), v);
            was = v;
        }
        wrongNumbers(check);
        wrongPlaces(check);
        check.end("SetTest");
    }

    private static void wrongNumbers(Check check) {
        ScanForge x = new ScanForge();
        x.set(0, 7);
        double[] wrong = {Math.nextUp(1e12), -Math.nextUp(1e12), 1e13, -1e300, Double.NaN,
            Double.POSITIVE_INFINITY, Double.NEGATIVE_INFINITY};
        for (double v : wrong) {
            check.raises("value " + v, Check.BAD_NUMBER, () -> x.set(0, v));
            check.raises("value first " + v, Check.BAD_NUMBER, () -> x.set(8, v));
        }
        check.same("nothing was changed", x.register(0), 7.0);
    }

    private static void wrongPlaces(Check check) {
        ScanForge x = new ScanForge();
        for (int i : new int[] {-1, 8, Integer.MIN_VALUE, Integer.MAX_VALUE}) {
            check.raises("register " + i, Check.BAD_PLACE, () -> x.set(i, 1e12));
        }
    }
}
