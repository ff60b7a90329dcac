/** Counts and prints the answers that are not the ones that are due. */
final class Check {
    /** A call of the program; one without an answer answers 0. */
    interface Call {
        long answer();
    }

    static final Class<? extends RuntimeException> ARGUMENT = IllegalArgumentException.class;
    static final Class<? extends RuntimeException> INDEX = IndexOutOfBoundsException.class;
    static final Class<? extends RuntimeException> STATE = IllegalStateException.class;

    private static int wrong = 0;

    private Check() {
    }

    static void due(String call, long want, long got) {
        if (want != got) {
            report(call + " answered " + got + ", due is " + want);
        }
    }

    static void due(String call, boolean want, boolean got) {
        due(call, want ? 1 : 0, got ? 1 : 0);
    }

    static void refused(String call, Class<? extends RuntimeException> want, Call made) {
        String got = outcome(made);
        String due = "throws " + want.getSimpleName();
        if (!got.equals(due)) {
            report(call + " " + got + ", due is that it " + due);
        }
    }

    static String outcome(Call made) {
        try {
            return "answers " + made.answer();
        } catch (RuntimeException e) {
            return "throws " + e.getClass().getSimpleName();
        }
    }

    static void report(String text) {
        wrong++;
        System.out.println(text);
    }

    static int wrongs() {
        return wrong;
    }

    static void end() {
        if (wrong > 0) {
            System.out.println(wrong + " wrong");
            System.exit(1);
        }
    }
}
