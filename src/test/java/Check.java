/** Counts answers that are not as due, names the sentence of the document that they are due by, and ends a test. */
final class Check {
    private static int asked = 0;
    private static int wrong = 0;
    private static int sentences = 0;
    private static int askedBefore = 0;
    private static String told = "";

    private Check() {
    }

    /** The answers that follow, at least one, are due by these words of this part of the document. */
    static void sentence(String part, String words) {
        endSentence();
        told = part + ": " + words;
        sentences++;
        holds("these words stand in the document", Document.says(part, words));
        askedBefore = asked;
    }

    private static void endSentence() {
        if (sentences > 0 && asked == askedBefore) {
            wrong++;
            System.out.println("nothing was asked for [" + told + "]");
        }
    }

    static void due(String call, int got, int want) {
        asked++;
        if (got != want) {
            wrong++;
            System.out.println((told.isEmpty() ? "" : "[" + told + "] ") + call + " answered " + got
                + ", due is " + want);
        }
    }

    static void holds(String claim, boolean isSo) {
        due(claim + " (1 if so)", isSo ? 1 : 0, 1);
    }

    static void end() {
        endSentence();
        System.out.println((wrong == 0 ? asked + " answers are as due" : wrong + " answers are not as due")
            + (sentences == 0 ? "" : ", by " + sentences + " sentences"));
        System.exit(wrong == 0 && asked > 0 ? 0 : 1);
    }
}
