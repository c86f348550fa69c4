/** Counts and prints the answers that are not the ones that are due. */
final class Due {
    private String sentence = "";
    private int sentences = 0;
    private int askedBefore = 0;
    private int wrong = 0;
    private int asked = 0;

    /** What is asked from now on tests this sentence of the document. */
    void sentence(String words) {
        closeSentence();
        sentence = words;
        sentences++;
        askedBefore = asked;
    }

    void is(String call, long got, long want) {
        note(call, got == want, Long.toString(got), Long.toString(want));
    }

    void is(String call, boolean got, boolean want) {
        note(call, got == want, Boolean.toString(got), Boolean.toString(want));
    }

    void is(String call, String got, String want) {
        note(call, got.equals(want), got, want);
    }

    void finish() {
        closeSentence();
        String about = sentences == 0 ? "" : sentences + " sentences, ";
        System.out.println(about + asked + " answers, " + wrong + " not as due");
        if (wrong != 0) {
            System.exit(1);
        }
    }

    private void note(String call, boolean right, String got, String want) {
        asked++;
        if (!right) {
            wrong++;
            System.out.println((sentence.isEmpty() ? "" : "[" + sentence + "] ") + call + " answered " + got + ", due is " + want);
        }
    }

    private void closeSentence() {
        if (sentences > 0 && asked == askedBefore) {
            wrong++;
            System.out.println("[" + sentence + "] was not tested");
        }
    }
}
