/** Counts the answers that are not as due, and ends a test's run. */
final class Due {
    private static int asked = 0;
    private static int wrong = 0;
    private static int sentences = 0;
    private static String sentence = "";

    /** What follows is asked of these words of the document. */
    static void sentence(String words) {
        sentence = "\"" + words + "\" ";
        sentences++;
    }

    static void due(String call, long got, long want) {
        asked++;
        if (got != want) {
            wrong++;
            System.out.println(sentence + call + " answered " + got + ", due is " + want);
        }
    }

    static void finish(String name) {
        String of = sentences == 0 ? "" : sentences + " sentences, ";
        System.out.println(name + ": " + of + asked + " answers, " + wrong + " not as due");
        if (wrong != 0) {
            System.exit(1);
        }
    }
}
