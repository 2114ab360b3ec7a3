/** Compares what calls answer or throw with what is due, prints every difference, and ends the run. */
final class Checks {
    interface Call {
        long run();
    }

    interface Act {
        void run();
    }

    private String sentence = null;
    private int doneForSentence = 0;
    private int sentences = 0;
    private int wrong = 0;
    private int done = 0;

    /** What the checks from here on are for: the words of the document ('..': left out), and where they stand. */
    void sentence(String where, String words) {
        begin(where + " '" + words + "'");
    }

    /** The same, with the one case of these words that is looked at. */
    void sentence(String where, String words, String onlyCase) {
        begin(where + " '" + words + "' (" + onlyCase + ")");
    }

    private void begin(String text) {
        refuseUnchecked();
        sentence = text;
        sentences++;
        doneForSentence = 0;
    }

    /** One test: what it throws outside a check is a fault of its sentence, and the next test still runs. */
    void test(Act it) {
        sentence = null;
        try {
            it.run();
            refuseUnchecked();
        } catch (RuntimeException e) {
            wrong++;
            System.out.println(sentence + ": threw " + e + " where nothing throws");
        }
        sentence = null;
    }

    /** A sentence without a check would look like one that holds. */
    private void refuseUnchecked() {
        if (sentence != null && doneForSentence == 0) {
            wrong++;
            System.out.println(sentence + ": nothing was checked");
        }
    }

    void answers(String call, long due, Call it) {
        compare(call, String.valueOf(due), outcome(it));
    }

    void passes(String call, Act it) {
        compare(call, "0", outcome(asCall(it)));
    }

    void refusesArgument(String call, Call it) {
        compare(call, "IllegalArgumentException", outcome(it));
    }

    void refusesArgumentOf(String call, Act it) {
        compare(call, "IllegalArgumentException", outcome(asCall(it)));
    }

    void refusesState(String call, Call it) {
        compare(call, "IllegalStateException", outcome(it));
    }

    void refusesIndex(String call, Call it) {
        compare(call, "IndexOutOfBoundsException", outcome(it));
    }

    void compare(String call, String due, String got) {
        done++;
        doneForSentence++;
        if (!due.equals(got)) {
            wrong++;
            System.out.println(sentence + ": " + call + " gave " + got + ", due is " + due);
        }
    }

    /** The answer, or the exact class of what was thrown: a subclass of what is due is wrong. */
    static String outcome(Call it) {
        try {
            return String.valueOf(it.run());
        } catch (RuntimeException e) {
            return e.getClass().getSimpleName();
        }
    }

    static Call asCall(Act it) {
        return () -> {
            it.run();
            return 0;
        };
    }

    void end() {
        refuseUnchecked();
        System.out.println(sentences + " sentences, " + done + " checks, " + wrong + " wrong");
        if (wrong != 0 || done == 0) {
            System.exit(1);
        }
    }
}
