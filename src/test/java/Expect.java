/** Counts the answers that are not the due ones, and tells each. */
final class Expect {
    private static final int MOST_TOLD = 20;
    private static int asked = 0;
    private static int wrong = 0;
    private static int sentences = 0;
    private static String sentence = "";

    private Expect() {
    }

    /** What the document says in one sentence, and what is tried to see that it holds. */
    static void holds(String text, Runnable run) {
        sentences++;
        sentence = text;
        int before = asked;
        try {
            run.run();
        } catch (RuntimeException thrown) {
            tell("threw " + thrown);
        }
        if (asked == before) {
            tell("looked at nothing");
        }
        sentence = "";
    }

    static void same(String call, long got, long due) {
        asked++;
        if (got != due) {
            tell(call + " answered " + got + ", due is " + due);
        }
    }

    static void same(String call, double got, double due) {
        asked++;
        if (got != due) {
            tell(call + " answered " + got + ", due is " + due);
        }
    }

    static void same(String call, String got, String due) {
        asked++;
        if (!got.equals(due)) {
            tell(call + ": " + got + ", due is: " + due);
        }
    }

    static void yes(String call, boolean got) {
        same(call, got ? 1 : 0, 1);
    }

    static void no(String call, boolean got) {
        same(call, got ? 1 : 0, 0);
    }

    /** The call has to throw just this exception, none of a class below it. */
    static void throwing(String call, Class<? extends RuntimeException> due, Runnable run) {
        asked++;
        Class<?> got = null;
        try {
            run.run();
        } catch (RuntimeException thrown) {
            got = thrown.getClass();
        }
        if (got != due) {
            tell(call + " threw " + got + ", due is " + due);
        }
    }

    static void tell(String text) {
        wrong++;
        if (wrong <= MOST_TOLD) {
            System.out.println(sentence.isEmpty() ? text : "'" + sentence + "': " + text);
        }
    }

    static boolean isAnyWrong() {
        return wrong != 0;
    }

    static void end(String test) {
        String told = sentences == 0 ? "" : sentences + " sentences, ";
        System.out.println(test + ": " + told + asked + " answers looked at, " + wrong + " not as due");
        if (wrong != 0) {
            System.exit(1);
        }
    }
}
