/** Counts what is due and what is not; a test ends with exit code 1 if anything was not due. */
final class Checks {
    /** A call whose answer, or exception, is looked at. */
    interface Call {
        Object make();
    }

    private final String name;
    private int right;
    private int wrong;

    Checks(String name) {
        this.name = name;
    }

    /** Answers are told as text, so that an int, a long and a boolean can be compared alike. */
    void is(String what, Object want, Call call) {
        String got = answer(call);
        if (got.equals(String.valueOf(want))) {
            right++;
        } else {
            wrong++;
            System.out.println(name + ": " + what + " answered " + got + ", due is " + want);
        }
    }

    void refused(String what, Class<? extends RuntimeException> want, Call call) {
        is(what, "throws " + want.getName(), call);
    }

    static String answer(Call call) {
        try {
            return String.valueOf(call.make());
        } catch (RuntimeException e) {
            return "throws " + e.getClass().getName();
        }
    }

    void end() {
        System.out.println(name + ": " + right + " right, " + wrong + " wrong");
        if (wrong > 0 || right == 0) {
            System.exit(1);
        }
    }
}
