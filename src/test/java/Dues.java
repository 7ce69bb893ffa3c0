/** Counts answers that are not the ones that are due, and ends a test accordingly. */
final class Dues {
    private static int compared = 0;
    private static int wrong = 0;

    private Dues() {
    }

    static void due(String what, long got, long want) {
        compared++;
        if (got != want) {
            wrong++;
            System.out.println(what + " answered " + got + ", due is " + want);
        }
    }

    static int wrong() {
        return wrong;
    }

    static void end() {
        System.out.println(compared + " answers, " + wrong + " of them not as due");
        if (wrong != 0 || compared == 0) {
            System.exit(1);
        }
    }
}
