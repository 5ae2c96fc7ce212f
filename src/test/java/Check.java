/** Counts answers that are not as due, and ends a test. */
final class Check {
    private static int asked = 0;
    private static int wrong = 0;

    private Check() {
    }

    static void due(String call, int got, int want) {
        asked++;
        if (got != want) {
            wrong++;
            System.out.println(call + " answered " + got + ", due is " + want);
        }
    }

    static void holds(String claim, boolean isSo) {
        due(claim + " (1 if so)", isSo ? 1 : 0, 1);
    }

    static void end() {
        System.out.println(wrong == 0 ? asked + " answers are as due" : wrong + " answers are not as due");
        System.exit(wrong == 0 && asked > 0 ? 0 : 1);
    }
}
