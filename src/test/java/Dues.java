/** Counts answers that are not the ones that are due, and ends a test accordingly. */
final class Dues {
    private static int compared = 0;
    private static int wrong = 0;
    private static int comparedOfSentence = 0;
    private static String sentence = "";

    private Dues() {
    }

    /** What is compared from now on tests this sentence of the document, which a wrong answer is told with. */
    static void sentence(String words) {
        if (!sentence.isEmpty() && comparedOfSentence == 0) {
            due("nothing was compared for: " + sentence, 1, 0);
        }
        sentence = words;
        comparedOfSentence = 0;
    }

    static void due(String what, long got, long want) {
        compared++;
        comparedOfSentence++;
        if (got != want) {
            wrong++;
            String ahead = sentence.isEmpty() ? "" : "\"" + sentence + "\": ";
            System.out.println(ahead + what + " answered " + got + ", due is " + want);
        }
    }

    static int wrong() {
        return wrong;
    }

    static void end() {
        sentence("");
        System.out.println(compared + " answers, " + wrong + " of them not as due");
        if (wrong != 0 || compared == 0) {
            System.exit(1);
        }
    }
}
