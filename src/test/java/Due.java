/** Counts the answers that are not the ones due, for tests whose exit code tells. */
final class Due {
    private static int asked = 0;
    private static int wrong = 0;
    private static String sentence = "";
    private static int askedOfSentence = 0;

    private Due() {
    }

    /** What is asked from here on is asked for this sentence of the document. */
    static void sentence(String text) {
        endSentence();
        sentence = text;
        askedOfSentence = 0;
    }

    private static void endSentence() {
        if (!sentence.isEmpty() && askedOfSentence == 0) {
            wrong++;
            System.out.println("nothing was asked for: " + sentence);
        }
    }

    static void due(String call, long got, long want) {
        due(call, String.valueOf(got), String.valueOf(want));
    }

    static void due(String call, String got, String want) {
        asked++;
        askedOfSentence++;
        if (!got.equals(want)) {
            wrong++;
            String head = sentence.isEmpty() ? "" : "'" + sentence + "': ";
            System.out.println(head + call + " answered " + got + ", due is " + want);
        }
    }

    static void end() {
        endSentence();
        System.out.println(asked + " answers, " + wrong + " wrong");
        if (wrong != 0 || asked == 0) {
            System.exit(1);
        }
    }
}
