/** Counts and prints the answers that are not as due. */
final class Check {
    private String sentence = "";
    private int sentences = 0;
    private int wrong = 0;
    private int asked = 0;

    /** One sentence of the document by a test of its own; what it finds is printed with the sentence. */
    void sentence(String text, Runnable test) {
        sentence = "\"" + text + "\": ";
        sentences++;
        int askedBefore = asked;
        try {
            test.run();
        } catch (RuntimeException | StackOverflowError e) {
            fail("a call threw " + e);
        }
        if (asked == askedBefore) {
            fail("no answer was looked at");
        }
        sentence = "";
    }

    void due(String call, long got, long want) {
        asked++;
        if (got != want) {
            fail(call + " answered " + got + ", due is " + want);
        }
    }

    void due(String call, boolean got, boolean want) {
        due(call, got ? 1 : 0, want ? 1 : 0);
    }

    void same(String what, String got, String want) {
        asked++;
        if (!got.equals(want)) {
            fail(what + " is\n  " + got + "\ndue is\n  " + want);
        }
    }

    private void fail(String what) {
        wrong++;
        System.out.println(sentence + what);
    }

    int wrong() {
        return wrong;
    }

    void finish() {
        String of = sentences == 0 ? "" : sentences + " sentences, ";
        System.out.println(of + asked + " answers looked at, " + wrong + " not as due");
        if (wrong != 0) {
            System.exit(1);
        }
    }
}
