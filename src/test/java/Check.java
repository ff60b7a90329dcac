/** Counts and prints the answers that are not the ones that are due. */
final class Check {
    /** A call of the program; one without an answer answers 0. */
    interface Call {
        long answer();
    }

    /** A call of the program with one argument that changes. */
    interface CallOf {
        long answer(int value);
    }

    static final Class<? extends RuntimeException> ARGUMENT = IllegalArgumentException.class;
    static final Class<? extends RuntimeException> INDEX = IndexOutOfBoundsException.class;
    static final Class<? extends RuntimeException> STATE = IllegalStateException.class;

    private static int wrong = 0;
    private static String about = "";

    private Check() {
    }

    /** What is wrong from now on is told with the sentence that it breaks. */
    static void about(String sentence) {
        about = sentence + "\n    ";
    }

    static void due(String call, long want, long got) {
        if (want != got) {
            report(call + " answered " + got + ", due is " + want);
        }
    }

    static void due(String call, boolean want, boolean got) {
        due(call, want ? 1 : 0, got ? 1 : 0);
    }

    static void same(String what, String want, String got) {
        if (!want.equals(got)) {
            report(what + ":\n" + got + "\n    due is\n" + want);
        }
    }

    static void refused(String call, Class<? extends RuntimeException> want, Call made) {
        String got = outcome(made);
        String due = "throws " + want.getSimpleName();
        if (!got.equals(due)) {
            report(call + " " + got + ", due is that it " + due);
        }
    }

    /** Next to both ends of a range, and as far out of it as a number can be. */
    static void refusedOutside(String call, Class<? extends RuntimeException> want, int least, int most, CallOf made) {
        int[] outside = {least - 1, most + 1, Integer.MIN_VALUE, Integer.MAX_VALUE};
        for (int value : outside) {
            refused(call + " of " + value, want, () -> made.answer(value));
        }
    }

    static String outcome(Call made) {
        try {
            return "answers " + made.answer();
        } catch (RuntimeException e) {
            return "throws " + e.getClass().getSimpleName();
        }
    }

    static void report(String text) {
        wrong++;
        System.out.println(about + text);
    }

    static int wrongs() {
        return wrong;
    }

    static void end() {
        if (wrong > 0) {
            System.out.println(wrong + " wrong");
            System.exit(1);
        }
    }
}
