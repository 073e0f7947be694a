/** Counts the answers of a test that are as due, and prints those that are not. */
final class Check {
    interface Call {
        void make();
    }

    interface Question {
        long ask();
    }

    private static int passed = 0;
    private static int failed = 0;
    private static String part = "";

    private Check() {}

    static void part(String name) {
        part = name;
    }

    static void due(String what, long got, long want) {
        note(got == want, what + " answered " + got + ", due is " + want);
    }

    static void due(String what, boolean got, boolean want) {
        note(got == want, what + " answered " + got + ", due is " + want);
    }

    static void due(String what, String got, String want) {
        note(got.equals(want), what + " answered " + got + ", due is " + want);
    }

    /** An index that is out of bounds. */
    static void index(String what, Call call) {
        due(what, outcome(call), "IndexOutOfBoundsException");
    }

    static void argument(String what, Call call) {
        due(what, outcome(call), "IllegalArgumentException");
    }

    static void state(String what, Call call) {
        due(what, outcome(call), "IllegalStateException");
    }

    static void nothing(String what, Call call) {
        due(what, outcome(call), "nothing thrown");
    }

    /** The exact name: a class below the one that is due is not due. */
    static String outcome(Call call) {
        try {
            call.make();
            return "nothing thrown";
        } catch (RuntimeException e) {
            return e.getClass().getSimpleName();
        }
    }

    /** An answer as a text, where a throw is an answer too. */
    static String answer(Question question) {
        try {
            return Long.toString(question.ask());
        } catch (RuntimeException e) {
            return "threw " + e.getClass().getSimpleName();
        }
    }

    private static void note(boolean isGood, String text) {
        if (isGood) {
            passed++;
        } else {
            failed++;
            if (failed <= 50) {
                System.out.println(part + ": " + text);
            }
        }
    }

    static void finish(String name) {
        System.out.println(name + ": " + passed + " answers as due, " + failed + " not");
        if (failed > 0 || passed == 0) {
            System.exit(1);
        }
    }
}
