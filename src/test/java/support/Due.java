/** Compares answers with those that are due, and counts and prints those that are not. */
final class Due {
    /** A call whose answer is looked at. */
    interface Call {
        Object answer();
    }

    private static final int MOST_PRINTED = 40;

    private int checked = 0;
    private int wrong = 0;
    private String heading = "";

    /** The answer of a call, or "throws." and the plain name of its exception. */
    static Object answerOf(Call call) {
        try {
            return call.answer();
        } catch (RuntimeException e) {
            return "throws." + e.getClass().getSimpleName();
        }
    }

    /** Tells what the answers that follow are about. */
    void head(String newHeading) {
        heading = newHeading;
    }

    void same(String what, Object got, Object want) {
        checked++;
        if (!want.equals(got)) {
            wrong++;
            if (wrong <= MOST_PRINTED) {
                System.out.println(heading + what + " answered " + got + ", due is " + want);
            }
        }
    }

    void call(String what, Object want, Call call) {
        same(what, answerOf(call), want);
    }

    void range(String what, Call call) {
        call(what, "throws.IndexOutOfBoundsException", call);
    }

    void argument(String what, Call call) {
        call(what, "throws.IllegalArgumentException", call);
    }

    void element(String what, Call call) {
        call(what, "throws.NoSuchElementException", call);
    }

    void state(String what, Call call) {
        call(what, "throws.IllegalStateException", call);
    }

    void tooGreat(String what, Call call) {
        call(what, "throws.UnsupportedOperationException", call);
    }

    void arithmetic(String what, Call call) {
        call(what, "throws.ArithmeticException", call);
    }

    int checked() {
        return checked;
    }

    boolean isWrong() {
        return wrong != 0;
    }

    /** Tells how many answers were looked at, and ends the program with 1 if one was wrong. */
    void end() {
        System.out.println(checked + " answers looked at, " + wrong + " not as due");
        if (wrong != 0 || checked == 0) {
            System.exit(1);
        }
    }
}
