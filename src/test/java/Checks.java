/** Counts and prints what a test program finds, and ends it with 1 when an answer was not as due. */
final class Checks {
    interface Call {
        int answer();
    }

    /** One fault in a random run is followed by very many; the first ones tell enough. */
    private static final int MOST_PRINTED = 100;

    private int right;
    private int wrong;

    void due(String what, long due, long got) {
        due(what, Long.toString(due), Long.toString(got));
    }

    void due(String what, String due, String got) {
        if (due.equals(got)) {
            right++;
            return;
        }
        wrong++;
        if (wrong <= MOST_PRINTED) {
            System.out.println(what + " answered " + got + ", due is " + due);
        }
    }

    void refused(String what, Class<? extends RuntimeException> due, Call call) {
        due(what, "throws." + due.getSimpleName(), answerOf(call));
    }

    /** The answer as text, or the exact class of what the call throws. */
    static String answerOf(Call call) {
        try {
            return Integer.toString(call.answer());
        } catch (RuntimeException e) {
            return "throws." + e.getClass().getSimpleName();
        }
    }

    void finish() {
        System.out.println(right + " answers as due, " + wrong + " not");
        if (wrong != 0 || right == 0) {
            System.exit(1);
        }
    }
}
