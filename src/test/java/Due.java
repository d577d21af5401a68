import java.util.List;

/** Counts the checks of a test, prints those that fail, and ends the test's program. */
final class Due {
    // A broken rule fails in many checks: the first ones about each thing tell enough.
    private static final int MOST_PRINTED = 20;

    private int passed;
    private int failed;
    private int printed;
    private String about = "";

    /** Tells what the next checks look at: that stands in front of what they print. */
    void about(String what) {
        about = what + ": ";
        printed = 0;
    }

    void same(String what, long got, long want) {
        check(got == want, what + " answered " + got + ", due is " + want);
    }

    void same(String what, String got, String want) {
        check(got.equals(want), what + " answered " + got + ", due is " + want);
    }

    void sameAnswers(String what, List<Call> questions, List<String> got, List<String> want) {
        for (int i = 0; i < questions.size(); i++) {
            same(what + ": " + questions.get(i), got.get(i), want.get(i));
        }
    }

    void illegalArgument(String what, Runnable call) {
        same(what, outcome(call), "IllegalArgumentException");
    }

    void illegalState(String what, Runnable call) {
        same(what, outcome(call), "IllegalStateException");
    }

    void noSuchPlace(String what, Runnable call) {
        same(what, outcome(call), "IndexOutOfBoundsException");
    }

    void end(String test) {
        System.out.println(test + ": " + passed + " passed, " + failed + " failed");
        if (failed != 0 || passed == 0) {
            System.exit(1);
        }
    }

    private static String outcome(Runnable call) {
        try {
            call.run();
            return "no exception";
        } catch (RuntimeException thrown) {
            return thrown.getClass().getSimpleName();
        }
    }

    private void check(boolean holds, String complaint) {
        if (holds) {
            passed++;
        } else {
            failed++;
            printed++;
            if (printed <= MOST_PRINTED) {
                System.out.println(about + complaint);
            }
        }
    }
}
