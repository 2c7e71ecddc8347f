/** Counts what a test checks, and prints each answer that is not the one that is due. */
final class Checks {
    /** A call that may throw. */
    interface Call {
        Object answer();
    }

    private final String name;
    private int passed;
    private int failed;

    Checks(String name) {
        this.name = name;
    }

    void due(String what, Object want, Call call) {
        String got = answerOf(call);
        count(what, String.valueOf(want), got);
    }

    void thrown(String what, Class<? extends RuntimeException> want, Call call) {
        String got = answerOf(call);
        count(what, "throws." + want.getSimpleName(), got);
    }

    private void count(String what, String want, String got) {
        if (got.equals(want)) {
            passed++;
        } else {
            failed++;
            System.out.println(name + ": " + what + " answered " + got + ", due is " + want);
        }
    }

    /** The answer as a text, or the name of the exception's class behind 'throws.'. */
    static String answerOf(Call call) {
        try {
            return String.valueOf(call.answer());
        } catch (RuntimeException exception) {
            return "throws." + exception.getClass().getSimpleName();
        }
    }

    void close() {
        System.out.println(name + ": " + passed + " passed, " + failed + " failed");
        if (failed > 0) {
            System.exit(1);
        }
    }
}
