/** Gathers the answers of one test that are not as due. */
final class Check {
    interface Call {
        Object answer();
    }

    static final Class<? extends RuntimeException> BAD_NUMBER = IllegalArgumentException.class;
    static final Class<? extends RuntimeException> BAD_PLACE = IndexOutOfBoundsException.class;
    static final Class<? extends RuntimeException> HALTED = IllegalStateException.class;
    static final Class<? extends RuntimeException> FAULT = ArithmeticException.class;

    private int wrong = 0;

    void same(String what, long got, long want) {
        if (got != want) {
            tell(what + " answered " + got + ", due is " + want);
        }
    }

    void same(String what, double got, double want) {
        if (got != want) {
            tell(what + " answered " + got + ", due is " + want);
        }
    }

    void same(String what, boolean got, boolean want) {
        if (got != want) {
            tell(what + " answered " + got + ", due is " + want);
        }
    }

    void takes(String what, Call call) {
        try {
            call.answer();
        } catch (RuntimeException e) {
            tell(what + " threw " + e + ", due is an answer");
        }
    }

    void raises(String what, Class<? extends RuntimeException> due, Call call) {
        Object answer;
        try {
            answer = call.answer();
        } catch (RuntimeException e) {
            if (e.getClass() != due) {
                tell(what + " threw " + e + ", due is " + due.getName());
            }
            return;
        }
        tell(what + " answered " + answer + ", due is " + due.getName());
    }

    void tell(String fault) {
        wrong++;
        System.out.println(fault);
    }

    void end(String test) {
        System.out.println(test + ": " + (wrong == 0 ? "all as due" : wrong + " not as due"));
        if (wrong != 0) {
            System.exit(1);
        }
    }
}
