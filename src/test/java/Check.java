/** Compares answers with those that are due, prints every wrong one, and ends the program. */
final class Check {
    private String sentence = "";
    private int sentences;
    private int asked;
    private int wrong;

    /** What is checked from here on is this sentence of the document. */
    void sentence(String told) {
        sentence = "[" + told + "] ";
        sentences++;
    }

    void due(String call, long got, long want) {
        asked++;
        if (got != want) {
            wrong++;
            System.out.println(sentence + call + " answered " + got + ", due is " + want);
        }
    }

    void due(String call, boolean got, boolean want) {
        due(call, got ? 1 : 0, want ? 1 : 0);
    }

    void due(String call, String got, String want) {
        asked++;
        if (!got.equals(want)) {
            wrong++;
            System.out.println(sentence + call + " gave\n  " + got + "\ndue is\n  " + want);
        }
    }

    boolean isAnyWrong() {
        return wrong != 0;
    }

    void finish() {
        String of = sentences == 0 ? "" : " (" + sentences + " sentences)";
        System.out.println(wrong == 0 ? asked + " answers are as due" + of : wrong + " of " + asked + " answers are not as due" + of);
        System.exit(wrong == 0 ? 0 : 1);
    }
}
