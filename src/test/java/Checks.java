/** Compares answers with what is due, and ends the test with exit code 1 if one was wrong. */
final class Checks {
    interface Call {
        int answer();
    }

    private int wrong = 0;
    private int seen = 0;

    void due(String call, int want, Call made) {
        same(call, "" + want, answerOf(made));
    }

    void noSuch(String call, Call made) {
        dueThrow(call, IndexOutOfBoundsException.class, made);
    }

    void outOfRange(String call, Call made) {
        dueThrow(call, IllegalArgumentException.class, made);
    }

    void refused(String call, Call made) {
        dueThrow(call, IllegalStateException.class, made);
    }

    private void dueThrow(String call, Class<? extends RuntimeException> want, Call made) {
        same(call, want.getSimpleName(), answerOf(made));
    }

    // The very class counts: an exception that the machine throws is often of
    // a class below the one that is due.
    static String answerOf(Call made) {
        try {
            return "" + made.answer();
        } catch (RuntimeException e) {
            return e.getClass().getSimpleName();
        }
    }

    void same(String call, String want, String got) {
        seen++;
        if (!want.equals(got)) {
            wrong++;
            System.out.println(call + " answered " + got + ", due is " + want);
        }
    }

    /** What was held otherwise than by one answer counts as one. */
    void seen() {
        seen++;
    }

    void end(String test) {
        System.out.println(test + ": " + seen + " answers, " + wrong + " not as due");
        if (wrong != 0) {
            System.exit(1);
        }
    }
}
