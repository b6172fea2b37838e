/** Counts the answers of one test that are not as due, and ends it with exit code 1 if there are any. */
final class Due {
    private final String test;
    private String sentence = "";
    private int asked;
    private int askedBefore;
    private int wrong;
    private int sentences;

    Due(String test) {
        this.test = test;
    }

    /** Begins the test of one sentence of the document: what is asked until the next is about it. */
    void sentence(String words) {
        endSentence();
        sentence = words;
        sentences++;
        askedBefore = asked;
    }

    private void endSentence() {
        if (sentences > 0 && asked == askedBefore) {
            tell("nothing was asked", "", "an answer");
        }
    }

    private void tell(String call, String got, String want) {
        wrong++;
        String broken = sentence.isEmpty() ? "" : "\"" + sentence + "\": ";
        System.out.println(broken + call + " answered " + got + ", due is " + want);
    }

    void is(String call, long got, long want) {
        asked++;
        if (got != want) {
            tell(call, Long.toString(got), Long.toString(want));
        }
    }

    void is(String call, boolean got, boolean want) {
        is(call, got ? 1 : 0, want ? 1 : 0);
    }

    void is(String call, String got, String want) {
        asked++;
        if (!got.equals(want)) {
            tell(call, got, want);
        }
    }

    void end() {
        endSentence();
        String of = sentences == 0 ? "" : " of " + sentences + " sentences";
        System.out.println(test + of + ": " + (asked - wrong) + " answers as due, " + wrong + " not");
        if (wrong != 0 || asked == 0) {
            System.exit(1);
        }
    }
}
