/** For each promise of the document: ordinary inputs, the edges that it names, and wrong inputs. */
public final class PromiseTest extends PileChecks {
    private PromiseTest() {
    }

    public static void main(String[] args) {
        newObject();
        calls();
        tailCalls();
        returns();
        returnsBesideTheirCalls();
        raises();
        repairs();
        begins();
        undos();
        undosOfEachAction();
        undoneBegin();
        appends();
        clearedTexts();
        runs();
        failingTexts();
        failingSteps();
        counts();
        frames();
        slots();
        confessions();
        keptConfessions();
        namedCalls();
        worstCall();
        returnsAhead();
        missesWithOtherSizes();
        bestSizes();
        callsUntilOverrun();
        fullOfSteps();
        looksThatChangeNothing();
        Dues.end();
    }

    // ---- promise 1

    private static void newObject() {
        ReturnPile pile = new ReturnPile();
        same("1 counts", countsOf(pile), "0 0 0 0 0 0 0 0 0 0 0 8 7 0 0 0 0 0 ");
        for (int slot = 0; slot < 8; slot++) {
            due("1 call in slot " + slot, pile.slot(slot, 0), NONE);
            due("1 address in slot " + slot, pile.slot(slot, 1), NONE);
            due("1 writes of slot " + slot, pile.slot(slot, 2), 0);
        }
        due("1 slot 8", pile.slot(8, 0), INVALID);
        due("1 frame", pile.frame(0, 0), INVALID);
        due("1 undo", pile.undo(), ILLEGAL);
        due("1 clearText", pile.clearText(), 0);
        ReturnPile other = new ReturnPile();
        other.call(1, 1);
        due("1 objects are apart", pile.count(0), 0);
    }

    // ---- promise 2

    private static void calls() {
        ReturnPile pile = new ReturnPile();
        due("2 first", pile.call(0, 0), 0);
        due("2 second", pile.call(15, 999), 1);
        due("2 top", pile.count(12), 1);
        due("2 function below", pile.call(-1, 5), INVALID);
        due("2 function above", pile.call(16, 5), INVALID);
        due("2 address below", pile.call(5, -1), INVALID);
        due("2 address above", pile.call(5, 1000), INVALID);
        for (int far : FAR) {
            due("2 function " + far, pile.call(far, 5), INVALID);
            due("2 address " + far, pile.call(5, far), INVALID);
        }
        due("2 errors record nothing", pile.count(15), 2);
        due("2 errors are no steps", pile.count(1), 2);
        pile.ret();
        due("2 numbers go on", pile.call(3, 3), 2);
        callTimes(pile, 38);
        due("2 frames", pile.count(0), 40);
        String look = lookOf(pile);
        due("2 a frame too many", pile.call(1, 1), FULL);
        due("2 a wrong argument comes first", pile.call(16, 1), INVALID);
        same("2 errors change nothing", lookOf(pile), look);
        pile.ret();
        due("2 room again", pile.call(1, 1), 41);
    }

    // ---- promise 3

    private static void tailCalls() {
        ReturnPile pile = new ReturnPile();
        due("3 without a frame", pile.tail(0), ILLEGAL);
        due("3 a wrong argument comes first", pile.tail(16), INVALID);
        pile.call(4, 44);
        pile.call(5, 55);
        due("3 answer", pile.tail(15), 5);
        due("3 answer again", pile.tail(0), 15);
        due("3 below", pile.tail(-1), INVALID);
        due("3 above", pile.tail(16), INVALID);
        for (int far : FAR) {
            due("3 " + far, pile.tail(far), INVALID);
        }
        due("3 function", pile.frame(0, 1), 0);
        due("3 number", pile.frame(0, 0), 1);
        due("3 address", pile.frame(0, 2), 55);
        due("3 frame below", pile.frame(1, 1), 4);
        due("3 top", pile.count(12), 1);
        due("3 writes", pile.slot(1, 2), 1);
        due("3 steps", pile.count(1), 4);
        due("3 actions", pile.count(15), 4);
        due("3 hit", pile.ret(), 0);
    }

    // ---- promise 4

    private static void returns() {
        ReturnPile pile = sized(2);
        due("4 without a frame", pile.ret(), ILLEGAL);
        callTimes(pile, 3);
        due("4 hit", pile.ret(), 0);
        due("4 top goes back", pile.count(12), 1);
        due("4 hit behind the first slot", pile.ret(), 0);
        due("4 top", pile.count(12), 0);
        due("4 entry stays", pile.slot(1, 1), 101);
        due("4 overrun", pile.ret(), 2);
        due("4 top goes back around", pile.count(12), 1);
        due("4 empty again", pile.ret(), ILLEGAL);
        due("4 actions", pile.count(15), 5);
        due("4 frames", pile.count(0), 0);
        due("4 errors are no steps", pile.count(4), 3);
        ReturnPile lucky = sized(2);
        lucky.call(0, 5);
        lucky.call(0, 6);
        lucky.call(0, 5);
        lucky.ret();
        lucky.ret();
        due("4 lucky though overrun", lucky.ret(), 1);
        due("4 no confession", lucky.count(10), 0);
    }

    private static void returnsBesideTheirCalls() {
        ReturnPile pile = new ReturnPile();
        callTimes(pile, 3);
        pile.raise(1);
        due("4 misled", pile.ret(), 3);
        due("4 misled culprit", pile.confession(0, 1), 2);
        due("4 misled guess", pile.confession(0, 3), 102);
        due("4 misled again", pile.ret(), 3);
        due("4 misled again culprit", pile.confession(0, 1), 1);
        ReturnPile empty = new ReturnPile();
        empty.setRepair(1);
        callTimes(empty, 2);
        empty.raise(1);
        empty.setRepair(0);
        empty.call(0, 7);
        empty.raise(1);
        empty.setRepair(1);
        empty.call(1, 8);
        empty.raise(1);
        due("4 misled by an entry that nobody holds", empty.ret(), 3);
        due("4 its culprit", empty.confession(0, 1), 2);
    }

    // ---- promise 5

    private static void raises() {
        ReturnPile pile = new ReturnPile();
        due("5 without a frame", pile.raise(1), ILLEGAL);
        due("5 none", pile.raise(0), INVALID);
        due("5 too many", pile.raise(41), INVALID);
        due("5 most", pile.raise(40), ILLEGAL);
        for (int far : FAR) {
            due("5 " + far, pile.raise(far), INVALID);
        }
        callTimes(pile, 40);
        due("5 some", pile.raise(3), 37);
        due("5 the pile stays", pile.count(12), 7);
        due("5 fewer frames", pile.raise(38), ILLEGAL);
        pile.setRepair(1);
        due("5 with repair", pile.raise(1), 36);
        due("5 the pile goes back", pile.count(12), 6);
        due("5 far back", pile.raise(23), 13);
        due("5 the pile goes round", pile.count(12), 7);
        due("5 no writes", pile.slot(7, 2), 5);
        due("5 all", pile.raise(13), 0);
        due("5 round again", pile.count(12), 2);
        due("5 throws", pile.count(5), 4);
        due("5 no returns", pile.count(4), 0);
        due("5 no guesses", pile.count(6) + pile.count(8) + pile.count(9), 0);
        ReturnPile deep = new ReturnPile();
        callTimes(deep, 40);
        due("5 forty at once", deep.raise(40), 0);
    }

    // ---- promise 6

    private static void repairs() {
        ReturnPile pile = new ReturnPile();
        due("6 on", pile.setRepair(1), 0);
        due("6 on again", pile.setRepair(1), 1);
        due("6 an action though nothing changes", pile.count(15), 2);
        due("6 below", pile.setRepair(-1), INVALID);
        due("6 above", pile.setRepair(2), INVALID);
        for (int far : FAR) {
            due("6 " + far, pile.setRepair(far), INVALID);
        }
        due("6 it stays", pile.count(14), 1);
        due("6 off", pile.setRepair(0), 1);
        due("6 it is off", pile.count(14), 0);
        due("6 no step", pile.count(1), 0);
    }

    // ---- promise 7

    private static void begins() {
        ReturnPile pile = new ReturnPile();
        due("7 below", pile.begin(1), INVALID);
        due("7 above", pile.begin(17), INVALID);
        for (int far : FAR) {
            due("7 " + far, pile.begin(far), INVALID);
        }
        due("7 errors record nothing", pile.count(15), 0);
        pile.setRepair(1);
        due("7 smallest", pile.begin(2), 8);
        callTimes(pile, 3);
        pile.ret();
        pile.ret();
        pile.ret();
        pile.append('z');
        due("7 named before", pile.named(2), 1);
        due("7 greatest", pile.begin(16), 2);
        same("7 as at first", countsOf(pile), "0 0 0 0 0 0 0 0 0 0 0 16 15 0 1 5 1 0 ");
        for (int slot = 0; slot < 16; slot++) {
            due("7 empty slot " + slot, pile.slot(slot, 1), NONE);
            due("7 unwritten slot " + slot, pile.slot(slot, 2), 0);
        }
        due("7 confessions", pile.confession(0, 0), NONE);
        due("7 no calls", pile.named(0), INVALID);
        due("7 none named", pile.worst(), NONE);
        due("7 misses", pile.missesWith(2), 0);
        due("7 numbers begin anew", pile.call(1, 1), 0);
        pile.call(1, 1);
        pile.call(1, 1);
        due("7 not named any more", pile.named(2), 0);
        due("7 the same size", pile.begin(16), 16);
        due("7 is undone", pile.undo(), 4);
        due("7 call is back", pile.frame(0, 2), 1);
    }

    // ---- promise 8

    private static void undos() {
        ReturnPile pile = new ReturnPile();
        due("8 nothing", pile.undo(), ILLEGAL);
        callTimes(pile, 6);
        due("8 five are kept", pile.count(15), 5);
        for (int left = 4; left >= 0; left--) {
            due("8 left", pile.undo(), left);
            due("8 frames", pile.count(0), left + 1);
        }
        due("8 no sixth", pile.undo(), ILLEGAL);
        due("8 numbers as they were", pile.call(2, 2), 1);
        due("8 recorded anew", pile.count(15), 1);
        pile.append('r');
        pile.undo();
        due("8 the text stays", pile.count(16), 1);
        due("8 an error records nothing", pile.call(99, 0), INVALID);
        due("8 history", pile.undo(), ILLEGAL);
    }

    private static void undosOfEachAction() {
        ReturnPile pile = sized(2);
        callTimes(pile, 4);
        pile.raise(1);
        pile.ret();
        String look = lookOf(pile);
        pile.call(1, 7);
        due("8 after call", pile.undo(), 4);
        same("8 call", lookOf(pile), look);
        pile.tail(9);
        due("8 after tail", pile.undo(), 4);
        same("8 tail", lookOf(pile), look);
        pile.ret();
        due("8 after ret", pile.undo(), 4);
        same("8 ret", lookOf(pile), look);
        pile.setRepair(1);
        pile.raise(2);
        due("8 after raise", pile.undo(), 4);
        due("8 after setRepair", pile.undo(), 3);
        same("8 setRepair and raise", lookOf(pile), look);
        pile.begin(5);
        due("8 after begin", pile.undo(), 3);
        same("8 begin", lookOf(pile), look);
        runText(pile, "c1@1 t2 r");
        due("8 after run", pile.undo(), 3);
        same("8 run", lookOf(pile), look);
    }

    /** The steps that are remembered come back too, though others were made since. */
    private static void undoneBegin() {
        ReturnPile pile = new ReturnPile();
        runText(pile, "c0@0 c0@1 c0@2 c0@3 rrrr");
        pile.begin(4);
        runText(pile, "c0@5 c0@5 t1 t2 t3 t4 t5 r r");
        due("8 since begun anew", pile.missesWith(2), 0);
        due("8 after run", pile.undo(), 2);
        due("8 after begin", pile.undo(), 1);
        due("8 misses with two slots", pile.missesWith(2), 2);
        due("8 misses with three slots", pile.missesWith(3), 1);
        due("8 best size", pile.bestSize(), 4);
    }

    // ---- promise 9

    private static void appends() {
        ReturnPile pile = new ReturnPile();
        due("9 smallest", pile.append(1), 1);
        due("9 greatest", pile.append(255), 2);
        due("9 below", pile.append(0), INVALID);
        due("9 above", pile.append(256), INVALID);
        for (int far : FAR) {
            due("9 " + far, pile.append(far), INVALID);
        }
        for (int i = 3; i <= 120; i++) {
            due("9 length", pile.append(' '), i);
        }
        due("9 full", pile.append(' '), FULL);
        due("9 a wrong argument comes first", pile.append(0), INVALID);
        due("9 count", pile.count(16), 120);
        due("9 no action", pile.count(15), 0);
        due("9 the first sign", pile.run(), -1000);
    }

    // ---- promise 10

    private static void clearedTexts() {
        ReturnPile pile = new ReturnPile();
        write(pile, "c1@2");
        due("10 length", pile.clearText(), 4);
        due("10 empty", pile.clearText(), 0);
        due("10 count", pile.count(16), 0);
        due("10 no action", pile.count(15), 0);
        due("10 nothing is left of it", pile.run(), 0);
    }

    // ---- promise 11

    private static void runs() {
        ReturnPile pile = new ReturnPile();
        due("11 empty", pile.run(), 0);
        due("11 empty is an action", pile.count(15), 1);
        due("11 spaces", runText(pile, "    "), 0);
        due("11 spaces are taken", pile.count(16), 0);
        due("11 steps", runText(pile, " c 15 @ 999 c0@0t7c9@90x1t 12 c3@33 r  "), 8);
        due("11 one action", pile.count(15), 3);
        due("11 the text is empty", pile.count(16), 0);
        same("11 counts", countsOf(pile), "2 8 4 2 1 1 1 0 0 0 0 8 2 3 0 3 0 0 ");
        due("11 function", pile.frame(0, 1), 12);
        due("11 address", pile.frame(0, 2), 0);
        due("11 undone at once", pile.undo(), 2);
        due("11 as before", pile.count(1), 0);
        due("11 the text stays empty", pile.count(16), 0);
        StringBuilder longest = new StringBuilder();
        for (int i = 0; i < 30; i++) {
            longest.append("c1@").append(i % 10);
        }
        due("11 a full text", runText(pile, longest.toString()), 30);
        due("11 frames", pile.count(0), 30);
        due("11 throw of two digits", runText(pile, "x 30"), 1);
        due("11 none is left", pile.count(0), 0);
    }

    private static void failingTexts() {
        String[] texts = {
            "c", "c ", "c1", "c1 ", "c1@", "c1@  ", "c@1", "c1 2@3", "c1@1 5", "c1@ 05", "c00@1", "c0@1c01@1",
            "c1234@1", "c 1@ 1000", "c1@1t", "c1@1x", "c1@1 x01", "C1@1", "c1@1 \t", "c-1@1", "c1@1 r r1", "@", "1",
            "c1@@", "c1@1,", "t1234", "x", "t ", "c1@1x1x", "c1@1c1@1rr#", "c1@5 t00", "c1@5x0000", "c12 3@1",
        };
        int[] places = {
            1, 2, 2, 3, 3, 5, 1, 3, 5, 4, 1, 5,
            1, 5, 5, 5, 6, 0, 5, 1, 8, 0, 0,
            3, 4, 1, 1, 2, 7, 10, 6, 5, 4,
        };
        due("11 places", places.length, texts.length);
        for (int i = 0; i < texts.length; i++) {
            ReturnPile pile = new ReturnPile();
            pile.call(1, 1);
            String look = lookOf(pile);
            due("11 \"" + texts[i] + "\"", runText(pile, texts[i]), -1000 - places[i]);
            due("11 the text is kept", pile.count(16), texts[i].length());
            due("11 no action", pile.count(15), 1);
            same("11 nothing stays of \"" + texts[i] + "\"", lookOf(pile), look);
            due("11 it fails again", pile.run(), -1000 - places[i]);
        }
    }

    private static void failingSteps() {
        String[] texts = {
            "r", " r", "t1", "  t 1", "x1", "t5 6", "t5c", "c16@1", "c1@1c16@1", "c 999@1 ?", "c1@1 x0", "c1@1x2",
            "c1@1 x 41", "c1@1t16", "c1@1 r r1", "c1@1rt1#", "c1@1rr@", "t1 234", "x1 000", "x1c",
        };
        int[] places = {
            0, 1, 0, 2, 0, 0, 0, 0, 4, 0, 5, 4,
            5, 4, 7, 5, 5, 0, 0, 0,
        };
        due("11 places", places.length, texts.length);
        for (int i = 0; i < texts.length; i++) {
            ReturnPile pile = new ReturnPile();
            due("11 \"" + texts[i] + "\"", runText(pile, texts[i]), -1000 - places[i]);
            due("11 no steps", pile.count(1), 0);
            due("11 no action", pile.count(15), 0);
        }
        ReturnPile full = new ReturnPile();
        callTimes(full, 39);
        due("11 a longer text before", runText(full, "c1@1 r"), 2);
        due("11 nothing is left of it", runText(full, "c1"), -1002);
        due("11 a frame too many", runText(full, "c1@1 r c1@1 c2@2 r"), -1012);
        due("11 frames stay", full.count(0), 39);
        StringBuilder longest = new StringBuilder();
        for (int i = 0; i < 119; i++) {
            longest.append(' ');
        }
        due("11 the end of a full text", runText(new ReturnPile(), longest + "t"), -1120);
    }

    // ---- promise 12

    private static void counts() {
        ReturnPile pile = sized(3);
        callTimes(pile, 5);
        pile.tail(3);
        pile.tail(4);
        pile.append('c');
        pile.append('c');
        same("12 with frames", countsOf(pile), "5 7 5 2 0 0 0 0 0 0 0 3 1 5 0 5 2 2 ");
        pile.ret();
        pile.ret();
        pile.ret();
        pile.ret();
        pile.call(0, 7);
        pile.call(0, 7);
        pile.raise(1);
        pile.ret();
        pile.setRepair(1);
        pile.ret();
        same("12 at the end", countsOf(pile), "0 16 7 2 6 1 4 1 2 0 2 3 0 5 1 5 2 0 ");
        due("12 below", pile.count(-1), INVALID);
        due("12 above", pile.count(18), INVALID);
        for (int far : FAR) {
            due("12 " + far, pile.count(far), INVALID);
        }
        ReturnPile misled = new ReturnPile();
        callTimes(misled, 3);
        misled.raise(1);
        misled.ret();
        due("12 misses of the kind 2", misled.count(9), 1);
        due("12 misses of the kind 1", misled.count(8), 0);
        due("12 confessions", misled.count(10), 1);
    }

    // ---- promise 13

    private static void frames() {
        ReturnPile pile = sized(2);
        callTimes(pile, 5);
        int[][] due = {{4, 4, 104, 0, NONE}, {3, 3, 103, 1, NONE}, {2, 2, 102, 0, 4}, {1, 1, 101, 1, 3}, {0, 0, 100, 0, 2}};
        for (int depth = 0; depth < 5; depth++) {
            for (int what = 0; what < 5; what++) {
                due("13 frame " + depth + " " + what, pile.frame(depth, what), due[depth][what]);
            }
        }
        due("13 depth below", pile.frame(-1, 0), INVALID);
        due("13 depth above", pile.frame(5, 0), INVALID);
        due("13 what below", pile.frame(0, -1), INVALID);
        due("13 what above", pile.frame(0, 5), INVALID);
        for (int far : FAR) {
            due("13 depth " + far, pile.frame(far, 0), INVALID);
            due("13 what " + far, pile.frame(0, far), INVALID);
        }
        pile.ret();
        due("13 still overrun by the first", pile.frame(1, 4), 4);
        pile.call(1, 1);
        due("13 a later writer does not count", pile.frame(2, 4), 4);
        due("13 a new frame in the slot is not overrun", pile.frame(0, 4), NONE);
        due("13 its number", pile.frame(0, 0), 5);
    }

    // ---- promise 14

    private static void slots() {
        ReturnPile pile = sized(3);
        callTimes(pile, 4);
        int[][] due = {{3, 103, 2}, {1, 101, 1}, {2, 102, 1}};
        for (int slot = 0; slot < 3; slot++) {
            for (int what = 0; what < 3; what++) {
                due("14 slot " + slot + " " + what, pile.slot(slot, what), due[slot][what]);
            }
        }
        due("14 slot below", pile.slot(-1, 0), INVALID);
        due("14 slot above", pile.slot(3, 0), INVALID);
        due("14 what below", pile.slot(0, -1), INVALID);
        due("14 what above", pile.slot(0, 3), INVALID);
        for (int far : FAR) {
            due("14 slot " + far, pile.slot(far, 0), INVALID);
            due("14 what " + far, pile.slot(0, far), INVALID);
        }
        pile.ret();
        due("14 the entry stays", pile.slot(0, 0), 3);
        due("14 returns do not write", pile.slot(0, 2), 2);
        ReturnPile wide = sized(16);
        wide.call(0, 0);
        due("14 address 0", wide.slot(0, 1), 0);
        due("14 last slot", wide.slot(15, 0), NONE);
    }

    // ---- promise 15

    private static void confessions() {
        ReturnPile pile = new ReturnPile();
        due("15 none", pile.confession(0, 0), NONE);
        due("15 none at all", pile.confession(Integer.MAX_VALUE, 5), NONE);
        due("15 index below", pile.confession(-1, 0), INVALID);
        due("15 what below", pile.confession(0, -1), INVALID);
        due("15 what above", pile.confession(0, 6), INVALID);
        due("15 what above comes first", pile.confession(99, 6), INVALID);
        for (int far : FAR) {
            due("15 what " + far, pile.confession(0, far), INVALID);
        }
        due("15 index far below", pile.confession(Integer.MIN_VALUE, 0), INVALID);
        pile.begin(2);
        callTimes(pile, 3);
        pile.raise(1);
        pile.tail(1);
        pile.ret();
        due("15 kept", pile.count(10), 1);
        confessionIs(pile, 0, 2, 2, 1, 102, 101, 5);
        pile.ret();
        confessionIs(pile, 0, 1, 2, 0, 101, 100, 6);
        confessionIs(pile, 1, 2, 2, 1, 102, 101, 5);
        due("15 no third", pile.confession(2, 0), NONE);
    }

    private static void confessionIs(ReturnPile pile, int index, int... due) {
        for (int what = 0; what < due.length; what++) {
            due("15 confession " + index + " " + what, pile.confession(index, what), due[what]);
        }
    }

    /** Fifteen calls through two slots: all returns but two miss, which is one confession too many. */
    private static ReturnPile thirteenMisses() {
        ReturnPile pile = sized(2);
        callTimes(pile, 15);
        for (int i = 0; i < 15; i++) {
            pile.ret();
        }
        return pile;
    }

    private static void keptConfessions() {
        ReturnPile pile = thirteenMisses();
        due("15 misses", pile.count(8), 13);
        due("15 kept", pile.count(10), 12);
        for (int i = 0; i < 12; i++) {
            confessionIs(pile, i, 1, i + 2, i, i % 2 == 0 ? 114 : 113, 100 + i, 29 - i);
        }
        due("15 the first is not kept", pile.confession(12, 0), NONE);
        pile.undo();
        due("15 the first is back", pile.confession(11, 2), 12);
    }

    // ---- promise 16

    private static void namedCalls() {
        ReturnPile pile = thirteenMisses();
        due("16 by one that is not kept", pile.named(14), 1);
        due("16 by one that is kept", pile.named(2), 1);
        due("16 by none", pile.named(1), 0);
        due("16 below", pile.named(-1), INVALID);
        due("16 no such call", pile.named(15), INVALID);
        for (int far : FAR) {
            due("16 " + far, pile.named(far), INVALID);
        }
        ReturnPile twice = namedTwice();
        due("16 twice", twice.named(5), 2);
        due("16 once", twice.named(2), 1);
        twice.undo();
        due("16 undone", twice.named(5), 1);
    }

    /** Call 2 is named once, and call 5 once for each kind. */
    private static ReturnPile namedTwice() {
        ReturnPile pile = sized(2);
        runText(pile, "c0@100 c0@101 c0@102 rrr c0@1 c0@2 c0@3 x1");
        pile.ret();
        pile.ret();
        return pile;
    }

    // ---- promise 17

    private static void worstCall() {
        ReturnPile pile = new ReturnPile();
        due("17 no call", pile.worst(), NONE);
        pile.call(1, 1);
        due("17 none named", pile.worst(), NONE);
        due("17 the smallest of several", thirteenMisses().worst(), 2);
        ReturnPile twice = namedTwice();
        due("17 the most", twice.worst(), 5);
        twice.undo();
        due("17 the smaller of two", twice.worst(), 2);
        ReturnPile first = new ReturnPile();
        runText(first, "c0@1 c0@2 c0@3 x1 r");
        due("17 misled", first.worst(), 2);
        ReturnPile zero = sized(2);
        runText(zero, "c0@9 x1 c0@1 c0@2 x1 c0@3 x1 r");
        due("17 the last one", zero.worst(), 3);
    }

    // ---- promise 18

    private static void returnsAhead() {
        ReturnPile pile = sized(3);
        due("18 without frames", pile.ahead(1, 0), ILLEGAL);
        callTimes(pile, 4);
        due("18 hit", pile.ahead(1, 0), 1);
        due("18 no miss", pile.ahead(3, 1), 0);
        due("18 hits", pile.ahead(4, 0), 3);
        due("18 a miss", pile.ahead(4, 1), 1);
        due("18 fewer frames", pile.ahead(5, 0), ILLEGAL);
        due("18 returns below", pile.ahead(0, 0), INVALID);
        due("18 returns above", pile.ahead(41, 0), INVALID);
        due("18 what below", pile.ahead(1, -1), INVALID);
        due("18 what above", pile.ahead(1, 2), INVALID);
        due("18 a wrong argument comes first", pile.ahead(40, 2), INVALID);
        for (int far : FAR) {
            due("18 returns " + far, pile.ahead(far, 0), INVALID);
            due("18 what " + far, pile.ahead(1, far), INVALID);
        }
        ReturnPile deep = new ReturnPile();
        callTimes(deep, 40);
        due("18 forty hits", deep.ahead(40, 0), 8);
        due("18 forty misses", deep.ahead(40, 1), 32);
        ReturnPile misled = new ReturnPile();
        runText(misled, "c0@1 c0@2 c0@3 x1");
        due("18 misled", misled.ahead(2, 1), 2);
        ReturnPile lucky = sized(2);
        runText(lucky, "c0@5 c0@5 c0@5");
        due("18 lucky hits count", lucky.ahead(3, 0), 3);
    }

    // ---- promise 19

    private static void missesWithOtherSizes() {
        ReturnPile pile = sized(3);
        runText(pile, "c0@0 c0@1 c0@2 c0@3 rrrr");
        due("19 two", pile.missesWith(2), 2);
        due("19 the size itself", pile.missesWith(3), 1);
        due("19 four", pile.missesWith(4), 0);
        due("19 sixteen", pile.missesWith(16), 0);
        due("19 below", pile.missesWith(1), INVALID);
        due("19 above", pile.missesWith(17), INVALID);
        for (int far : FAR) {
            due("19 " + far, pile.missesWith(far), INVALID);
        }
        pile.begin(3);
        due("19 begun anew", pile.missesWith(2), 0);
        ReturnPile thrown = thrownOnce();
        due("19 as it was", thrown.missesWith(8), 2);
        due("19 with two slots", thrown.missesWith(2), 2);
        thrown.setRepair(1);
        due("19 with repair as it is now", thrown.missesWith(8), 0);
        due("19 with repair and two slots", thrown.missesWith(2), 1);
        due("19 what was stays", thrown.count(9), 2);
        ReturnPile lucky = new ReturnPile();
        runText(lucky, "c0@5 c0@5 c0@5 rrr");
        due("19 lucky hits are none", lucky.missesWith(2), 0);
    }

    private static ReturnPile thrownOnce() {
        ReturnPile pile = new ReturnPile();
        runText(pile, "c0@1 c0@2 t3 c0@3 x1 rr");
        return pile;
    }

    // ---- promise 20

    private static void bestSizes() {
        due("20 without steps", new ReturnPile().bestSize(), 2);
        ReturnPile five = sized(2);
        runText(five, "c0@0 c0@1 c0@2 c0@3 c0@4 rrrrr");
        due("20 five deep", five.bestSize(), 5);
        ReturnPile deep = new ReturnPile();
        callTimes(deep, 17);
        for (int i = 0; i < 17; i++) {
            deep.ret();
        }
        due("20 the greatest size", deep.bestSize(), 16);
        ReturnPile thrown = thrownOnce();
        due("20 without repair", thrown.bestSize(), 2);
        thrown.setRepair(1);
        due("20 with repair", thrown.bestSize(), 3);
    }

    // ---- promise 21

    private static void callsUntilOverrun() {
        ReturnPile pile = sized(3);
        due("21 without frames", pile.callsUntil(0), INVALID);
        callTimes(pile, 4);
        due("21 the top frame", pile.callsUntil(0), 3);
        due("21 the one below", pile.callsUntil(1), 2);
        due("21 the next", pile.callsUntil(2), 1);
        due("21 overrun now", pile.callsUntil(3), 0);
        due("21 below", pile.callsUntil(-1), INVALID);
        due("21 above", pile.callsUntil(4), INVALID);
        for (int far : FAR) {
            due("21 " + far, pile.callsUntil(far), INVALID);
        }
        ReturnPile thrown = new ReturnPile();
        runText(thrown, "c0@1 c0@2 c0@3 x1");
        due("21 after a throw", thrown.callsUntil(0), 7);
        due("21 after a throw, below", thrown.callsUntil(1), 6);
        thrown.ret();
        due("21 after a return", thrown.callsUntil(0), 7);
        ReturnPile deep = new ReturnPile();
        callTimes(deep, 40);
        due("21 with forty frames", deep.callsUntil(0), 8);
        due("21 with forty frames, below", deep.callsUntil(7), 1);
        due("21 with forty frames, overrun", deep.callsUntil(8), 0);
    }

    // ---- several promises

    private static void fullOfSteps() {
        ReturnPile pile = new ReturnPile();
        callTimes(pile, 2);
        for (int i = 0; i < 198; i++) {
            pile.tail(i % 16);
        }
        due("12 steps", pile.count(1), 200);
        String look = lookOf(pile);
        due("2 steps", pile.call(0, 0), FULL);
        due("2 a wrong argument comes first", pile.call(0, 1000), INVALID);
        due("3 steps", pile.tail(0), FULL);
        due("3 a wrong argument comes first", pile.tail(-1), INVALID);
        due("4 steps", pile.ret(), FULL);
        due("5 steps", pile.raise(2), FULL);
        due("5 fewer frames come first", pile.raise(3), ILLEGAL);
        due("5 a wrong argument comes first", pile.raise(0), INVALID);
        due("11 steps", runText(pile, " r"), -1001);
        due("18 steps do not matter", pile.ahead(2, 0), 2);
        due("21 steps do not matter", pile.callsUntil(1), 7);
        due("20 by all steps", pile.bestSize(), 2);
        same("errors change nothing", lookOf(pile), look);
        due("6 no step", pile.setRepair(1), 0);
        pile.undo();
        pile.undo();
        due("8 room again", pile.ret(), 0);
        due("4 full again", pile.ret(), FULL);
        pile.begin(8);
        due("3 without a frame", pile.tail(0), ILLEGAL);
        due("7 room again", pile.call(0, 0), 0);
        ReturnPile empty = new ReturnPile();
        for (int i = 0; i < 100; i++) {
            empty.call(0, i);
            empty.raise(1);
        }
        due("12 all steps", empty.count(1), 200);
        due("3 no frame comes first", empty.tail(0), ILLEGAL);
        due("4 no frame comes first", empty.ret(), ILLEGAL);
        due("16 the last call", empty.named(99), 0);
    }

    private static void looksThatChangeNothing() {
        ReturnPile pile = sized(3);
        runText(pile, "c0@0 c0@1 c0@2 c0@3 rrrr c1@1 c2@2 c3@3 c4@4 x1");
        pile.append('r');
        String counts = countsOf(pile);
        String look = lookOf(pile);
        pile.ahead(3, 1);
        pile.missesWith(2);
        pile.bestSize();
        pile.callsUntil(0);
        pile.worst();
        same("looks change nothing", lookOf(pile), look);
        same("looks change no count", countsOf(pile), counts);
        due("looks leave the guesses", pile.ret(), 3);
    }
}
