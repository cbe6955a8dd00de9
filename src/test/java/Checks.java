/** Counts the answers that are not as due, and ends a test by them. */
final class Checks {
    private String sentence = "";
    private int asked = 0;
    private int wrong = 0;

    void due(String what, long got, long want) {
        asked++;
        if (got != want) {
            wrong++;
            if (wrong <= 40) {
                System.out.println(sentence + what + " answered " + got + ", due is " + want);
            }
        }
    }

    void due(String what, boolean got, boolean want) {
        due(what, got ? 1 : 0, want ? 1 : 0);
    }

    void holds(String what, boolean got) {
        due(what, got, true);
    }

    /** Runs what tests one sentence of the document; a test that throws or asks nothing has failed. */
    void sentence(String words, Runnable run) {
        sentence = "\"" + words + "\": ";
        int before = asked;
        try {
            run.run();
        } catch (RuntimeException thrown) {
            due(thrown.toString(), true, false);
        }
        holds("something asked", asked > before);
        sentence = "";
    }

    boolean failed() {
        return wrong > 0;
    }

    void end() {
        System.out.println(asked + " answers, " + wrong + " not as due");
        if (wrong > 0 || asked == 0) {
            System.exit(1);
        }
    }
}
