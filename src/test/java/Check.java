/** Counts and prints the answers that are not the ones that are due. */
final class Check {
    private static int wrong = 0;
    private static int looked = 0;
    private static int sentences = 0;
    private static String sentence = "";

    private Check() {
    }

    /** What the document says about the calls that follow; it is printed with a wrong answer. */
    static void sentence(String words) {
        sentences++;
        sentence = "[" + words + "] ";
    }

    static void due(String call, long got, long want) {
        looked++;
        if (got != want) {
            print(call, "" + got, "" + want);
        }
    }

    static void due(String call, boolean got, boolean want) {
        due(call, got ? 1 : 0, want ? 1 : 0);
    }

    static void due(String call, String got, String want) {
        looked++;
        if (!got.equals(want)) {
            print(call, got, want);
        }
    }

    static void end() {
        System.out.println(wrong + " of " + looked + " answers are not as due"
                + (sentences > 0 ? ", for " + sentences + " sentences" : ""));
        if (wrong != 0) {
            System.exit(1);
        }
    }

    private static void print(String call, String got, String want) {
        wrong++;
        System.out.println(sentence + call + " answered " + got + ", due is " + want);
    }
}
