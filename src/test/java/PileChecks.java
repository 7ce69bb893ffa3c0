/** What the tests of ReturnPile share: ways to bring a pile into a state, and to tell a state as a text. */
abstract class PileChecks {
    static final int INVALID = ReturnPile.INVALID_ARGUMENT;
    static final int ILLEGAL = ReturnPile.ILLEGAL_STATE;
    static final int FULL = ReturnPile.CAPACITY_EXCEEDED;
    static final int NONE = ReturnPile.NONE;
    static final int[] FAR = {Integer.MIN_VALUE, -1000, 1000, Integer.MAX_VALUE};

    static void due(String what, long got, long want) {
        Dues.due(what, got, want);
    }

    static void same(String what, String got, String want) {
        due(what + ": " + got + " is " + want, got.equals(want) ? 1 : 0, 1);
    }

    static ReturnPile sized(int size) {
        ReturnPile pile = new ReturnPile();
        pile.begin(size);
        return pile;
    }

    /** Makes calls with the addresses from 100 on. */
    static void callTimes(ReturnPile pile, int times) {
        for (int i = 0; i < times; i++) {
            pile.call(i % 16, 100 + i);
        }
    }

    static ReturnPile withCalls(int size, int times) {
        ReturnPile pile = sized(size);
        callTimes(pile, times);
        return pile;
    }

    static void returnTimes(ReturnPile pile, int times) {
        for (int i = 0; i < times; i++) {
            pile.ret();
        }
    }

    static void tailTimes(ReturnPile pile, int times) {
        for (int i = 0; i < times; i++) {
            pile.tail(i % 16);
        }
    }

    static void append(ReturnPile pile, String text) {
        for (int i = 0; i < text.length(); i++) {
            pile.append(text.charAt(i));
        }
    }

    static void write(ReturnPile pile, String text) {
        pile.clearText();
        append(pile, text);
    }

    static int runText(ReturnPile pile, String text) {
        write(pile, text);
        return pile.run();
    }

    /** All counts in a row, as one text. */
    static String countsOf(ReturnPile pile) {
        StringBuilder counts = new StringBuilder();
        for (int what = 0; what <= 17; what++) {
            counts.append(pile.count(what)).append(' ');
        }
        return counts.toString();
    }

    /** All slots of the pile and its top, as one text. */
    static String slotsOf(ReturnPile pile) {
        StringBuilder slots = new StringBuilder("top ").append(pile.count(12)).append(':');
        for (int slot = 0; slot < pile.count(11); slot++) {
            for (int what = 0; what < 3; what++) {
                slots.append(' ').append(pile.slot(slot, what));
            }
        }
        return slots.toString();
    }

    /** A good deal of the state, without history and text, as one text; 52 calls. */
    static String lookOf(ReturnPile pile) {
        StringBuilder look = new StringBuilder();
        for (int what = 0; what <= 17; what++) {
            look.append(what == 15 || what == 16 ? "" : pile.count(what) + " ");
        }
        for (int depth = 0; depth < 3; depth++) {
            for (int what = 0; what < 5; what++) {
                look.append(pile.frame(depth, what)).append(' ');
            }
        }
        for (int i = 0; i < 2; i++) {
            for (int what = 0; what < 6; what++) {
                look.append(pile.confession(i, what)).append(' ');
            }
        }
        for (int what = 0; what < 6; what++) {
            look.append(pile.slot(what % 2, what / 2)).append(' ');
        }
        return look.append(pile.named(2)).append(' ').append(pile.worst()).append(' ').append(pile.bestSize()).toString();
    }
}
