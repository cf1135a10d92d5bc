/** Tries a call with the last numbers that are as said, and with the first that are not, on each side. */
final class Edges {
    interface OfInt {
        Object answer(int i);
    }

    interface OfDouble {
        Object answer(double v);
    }

    // The powers of two are 0 again in a place that is reckoned as row * 4 + column, or kept as a byte.
    static final int[] FAR = {Integer.MIN_VALUE, Integer.MAX_VALUE, 1 << 30, -(1 << 30), 1 << 16, 1 << 8};

    private Edges() {
    }

    static void places(Check check, String what, int low, int high, OfInt call) {
        ints(check, what, low, high, Check.BAD_PLACE, call);
    }

    static void numbers(Check check, String what, int low, int high, OfInt call) {
        ints(check, what, low, high, Check.BAD_NUMBER, call);
    }

    private static void ints(
            Check check, String what, int low, int high, Class<? extends RuntimeException> due, OfInt call) {
        for (int i = low; i <= high; i++) {
            int last = i;
            check.takes(what + " " + i, () -> call.answer(last));
        }
        check.raises(what + " " + (low - 1), due, () -> call.answer(low - 1));
        check.raises(what + " " + (high + 1), due, () -> call.answer(high + 1));
        for (int far : FAR) {
            check.raises(what + " " + far, due, () -> call.answer(far));
        }
    }

    static void doubles(Check check, String what, double low, double high, OfDouble call) {
        for (double last : new double[] {low, Math.nextUp(low), 0.0, -0.0, 0.5, Math.nextDown(high), high}) {
            check.takes(what + " " + last, () -> call.answer(last));
        }
        double[] wrong = {Math.nextDown(low), Math.nextUp(high), -Double.MAX_VALUE, Double.MAX_VALUE,
            Double.NEGATIVE_INFINITY, Double.POSITIVE_INFINITY, Double.NaN};
        for (double v : wrong) {
            check.raises(what + " " + v, Check.BAD_NUMBER, () -> call.answer(v));
        }
    }
}
