/** One test for each sentence on texts (Terms, Texts; promises 9 to 11) that names a boundary. */
public final class TextBoundaryTest extends PileChecks {
    private static final String SIGNS = "ctrx@019 #";

    private TextBoundaryTest() {
    }

    public static void main(String[] args) {
        hundredAndTwentyCharacters();
        fullTextsOfSteps();
        possiblyNoSteps();
        numbersOfSteps();
        oneToThreeDigits();
        firstOfSeveralNotZero();
        spacesAllOver();
        spacesBetweenDigits();
        otherBlanks();
        stepsRunAhead();
        signsThatAreNotAllowed();
        endsWhereSomethingIsMissing();
        stepsThatAreRefused();
        nothingStays();
        failingTextIsKept();
        textBecomesEmpty();
        allShortTexts();
        Dues.end();
    }

    /** A pile with two frames, so that most steps can be made. */
    private static ReturnPile twoFrames() {
        ReturnPile pile = new ReturnPile();
        callTimes(pile, 2);
        return pile;
    }

    private static void runs(String text, int want) {
        due("\"" + text + "\"", runText(twoFrames(), text), want);
    }

    private static void fails(String text, int place) {
        runs(text, -1000 - place);
    }

    private static String repeated(String text, int times) {
        return text.repeat(times);
    }

    private static void hundredAndTwentyCharacters() {
        Dues.sentence("A text of at most 120 characters can be run");
        ReturnPile pile = new ReturnPile();
        due("empty at first", pile.count(16), 0);
        for (int i = 1; i <= 120; i++) {
            due("new length", pile.append(' '), i);
            due("length", pile.count(16), i);
        }
        due("one too many", pile.append(' '), FULL);
        due("still full", pile.count(16), 120);
        due("previous length", pile.clearText(), 120);
        due("room again", pile.append('r'), 1);
        due("previous length again", pile.clearText(), 1);
        due("and again", pile.clearText(), 0);
        append(pile, repeated(" ", 120));
        due("spaces alone", pile.run(), 0);
        due("room after it was run", pile.append('r'), 1);
    }

    private static void fullTextsOfSteps() {
        Dues.sentence("The steps are read and run one by one");
        ReturnPile calls = new ReturnPile();
        due("thirty calls", runText(calls, repeated("c1@9", 30)), 30);
        due("frames", calls.count(0), 30);
        due("thirty more", runText(calls, repeated("c1@9", 30)), -1040);
        due("frames stay", calls.count(0), 30);
        due("ten more", runText(calls, repeated("c1@9", 10)), 10);
        due("and none", runText(calls, "c1@9"), -1000);
        due("returns", runText(calls, repeated("r", 40)), 40);
        ReturnPile longest = new ReturnPile();
        due("the last character is missing", runText(longest, repeated(" ", 118) + "c1"), -1120);
        due("the last character is wrong", runText(longest, repeated(" ", 119) + "#"), -1119);
        due("the last character is a refused step", runText(longest, repeated(" ", 119) + "r"), -1119);
        due("the last number ends the text", runText(longest, repeated(" ", 113) + "c15@999"), 1);
        due("address", longest.frame(0, 2), 999);
        ReturnPile deep = new ReturnPile();
        callTimes(deep, 40);
        due("a hundred and twenty returns", runText(deep, repeated("r", 120)), -1040);
        due("forty", runText(deep, repeated("r", 40) + repeated(" ", 80)), 40);
    }

    private static void possiblyNoSteps() {
        Dues.sentence("If it does not fail, this is one action, also without steps");
        ReturnPile pile = new ReturnPile();
        due("no text", pile.run(), 0);
        due("an action", pile.count(15), 1);
        due("one space", runText(pile, " "), 0);
        due("an action again", pile.count(15), 2);
        due("many steps", runText(pile, "c1@1c1@1c1@1c1@1rrr"), 7);
        due("are one action", pile.count(15), 3);
        due("undone at once", pile.undo(), 2);
        due("no frames", pile.count(2), 0);
    }

    private static void numbersOfSteps() {
        Dues.sentence("\"c\" function \"@\" address, \"t\" function, \"r\", \"x\" frames");
        runs("c0@0", 1);
        runs("c15@999", 1);
        fails("c16@999", 0);
        fails("c999@0", 0);
        runs("t0", 1);
        runs("t15", 1);
        fails("t16", 0);
        fails("t999", 0);
        runs("r", 1);
        runs("x1", 1);
        runs("x2", 1);
        fails("x3", 0);
        fails("x0", 0);
        fails("x40", 0);
        fails("x41", 0);
        fails("x999", 0);
        ReturnPile deep = new ReturnPile();
        callTimes(deep, 40);
        due("a throw of all frames", runText(deep, "x40"), 1);
        due("none is left", deep.count(0), 0);
    }

    private static void oneToThreeDigits() {
        Dues.sentence("A number is 1 to 3 digits, as many as stand there side by side");
        runs("c1@1", 1);
        runs("c1@12", 1);
        runs("c1@123", 1);
        fails("c1@1234", 3);
        fails("c1@" + repeated("9", 117), 3);
        fails("c1000@1", 1);
        fails("c " + repeated("1", 118), 2);
        fails("t1234", 1);
        fails("t 1234 ", 2);
        fails("x1234", 1);
        fails("r x  1234", 5);
        ReturnPile pile = twoFrames();
        due("numbers next to letters", runText(pile, "c12@345t6x1c7@8"), 4);
        due("function", pile.frame(0, 1), 7);
        due("address", pile.frame(0, 2), 8);
        due("no fourth digit is read of three", runText(pile, "c9@987"), 1);
        due("address of three digits", pile.frame(0, 2), 987);
    }

    private static void firstOfSeveralNotZero() {
        Dues.sentence("the first of several not 0.");
        runs("c0@0", 1);
        fails("c00@0", 1);
        fails("c01@0", 1);
        fails("c0@00", 3);
        fails("c0@000", 3);
        fails("c0@0000", 3);
        fails("c0@05", 3);
        fails("c0@ 012", 4);
        fails("t00", 1);
        fails("t 07", 2);
        fails("x00", 1);
        fails("x01", 1);
        fails("x0001", 1);
        runs("t10", 1);
        runs("c10@100", 1);
        runs("c10@990x1", 2);
    }

    private static void spacesAllOver() {
        Dues.sentence("Spaces (code 32) may stand before, between and after steps and within them");
        runs("  c  1  @  2  t  3  r  x  1  ", 4);
        runs(" r", 1);
        runs("r ", 1);
        runs("r r", 2);
        runs("c 1@1", 1);
        runs("c1 @1", 1);
        runs("c1@ 1", 1);
        runs("c1@1 ", 1);
        runs("t 1", 1);
        runs("x 1", 1);
        String text = " c 12 @ 345 t 6 r";
        int[] due = {0, 0, -1002, -1003, -1004, -1005, -1006, -1007, -1008, 1, 1, 1, 1, -1013, -1014, 2, 2, 3};
        due("beginnings", due.length, text.length() + 1);
        for (int length = 0; length <= text.length(); length++) {
            runs(text.substring(0, length), due[length]);
        }
    }

    private static void spacesBetweenDigits() {
        Dues.sentence("but not between the digits of one number.");
        fails("c1 2@3", 3);
        fails("c1  2@3", 4);
        fails("c1@2 3", 5);
        fails("c1@1 23", 5);
        fails("c1@12 345", 6);
        fails("t1 2", 3);
        fails("x1 1", 3);
        fails("c1@0 0", 5);
    }

    private static void otherBlanks() {
        Dues.sentence("Spaces (code 32)");
        for (int character = 1; character <= 255; character++) {
            ReturnPile pile = twoFrames();
            pile.append(character);
            int want = character == ' ' ? 0 : character == 'r' ? 1
                    : character == 'c' || character == 't' || character == 'x' ? -1001 : -1000;
            due("the text of character " + character, pile.run(), want);
            ReturnPile within = twoFrames();
            append(within, "t1");
            within.append(character);
            boolean digit = character >= '0' && character <= '9';
            int wantWithin = digit ? character <= '5' ? 1 : -1000 : want > -1000 ? 1 + want : want - 2;
            due("t1 and character " + character, within.run(), wantWithin);
        }
    }

    private static void stepsRunAhead() {
        Dues.sentence("a step is run when the next character that is no space cannot belong to it, or the text ends");
        due("r ahead of #", runText(new ReturnPile(), "r#"), -1000);
        due("r ahead of a digit", runText(new ReturnPile(), "r1"), -1000);
        due("r at the end", runText(new ReturnPile(), "   r  "), -1003);
        due("t1 ahead of #", runText(new ReturnPile(), "t1#"), -1000);
        due("t1 ahead of a digit behind a space", runText(new ReturnPile(), "t1 2"), -1000);
        due("t1 ahead of three digits too many", runText(new ReturnPile(), "t1 2345"), -1000);
        due("x1 ahead of @", runText(new ReturnPile(), "x1@"), -1000);
        due("x1 ahead of a letter", runText(new ReturnPile(), "x1c"), -1000);
        due("c16@1 ahead of @", runText(new ReturnPile(), "c16@1 @"), -1000);
        due("c16@1 ahead of 00", runText(new ReturnPile(), "c16@1 00"), -1000);
        due("c16@1 ahead of an unfinished step", runText(new ReturnPile(), "  c16@1x"), -1002);
        due("a right step ahead of #", runText(new ReturnPile(), "c1@1#"), -1004);
        due("an unfinished step is not run", runText(new ReturnPile(), "t1234"), -1001);
        due("an unfinished throw is not run", runText(new ReturnPile(), "x"), -1001);
        due("an unfinished call is not run", runText(new ReturnPile(), "c99@"), -1004);
        due("a wrong sign in a call", runText(new ReturnPile(), "c99#"), -1003);
        due("a wrong number in a call", runText(new ReturnPile(), "c99@01"), -1004);
    }

    private static void signsThatAreNotAllowed() {
        Dues.sentence("The text fails at the first character (no space) that is not allowed where it stands");
        fails("@", 0);
        fails("5", 0);
        fails(" 5", 1);
        fails("C1@1", 0);
        fails("R", 0);
        fails("c@1", 1);
        fails("c @1", 2);
        fails("cc", 1);
        fails("cr", 1);
        fails("c1r", 2);
        fails("c1 1", 3);
        fails("c1@@", 3);
        fails("c1@r", 3);
        fails("c1@-1", 3);
        fails("c+1@1", 1);
        fails("t@", 1);
        fails("t-1", 1);
        fails("tr", 1);
        fails("t1@", 2);
        fails("xx", 1);
        fails("x1@", 2);
        fails("r@", 1);
        fails("r 1", 2);
        fails("r,r", 1);
        fails("c1@1@", 4);
        fails("c1@1 /", 5);
        fails("c1@1 :", 5);
        fails("c1:1", 2);
        fails("c/@1", 1);
    }

    private static void endsWhereSomethingIsMissing() {
        Dues.sentence("or the length of the text if it ends where something is missing.");
        fails("c", 1);
        fails("c  ", 3);
        fails("c1", 2);
        fails("c1 ", 3);
        fails("c1@", 3);
        fails("c1@ ", 4);
        fails("t", 1);
        fails("t ", 2);
        fails("x", 1);
        fails("  x   ", 6);
        fails("r r c", 5);
        fails("c1@1 c1@", 8);
        fails(repeated(" ", 119) + "x", 120);
        fails("x" + repeated(" ", 119), 120);
    }

    private static void stepsThatAreRefused() {
        Dues.sentence("at the first step whose call returns an error code (the place is then that of its letter).");
        fails("rrr", 2);
        fails("r r   r", 6);
        fails("x2 r", 3);
        fails("x 2 t 1", 4);
        fails("x 2 x 1", 4);
        fails("rx2", 1);
        fails("c1@1 x4", 5);
        fails("c 16 @ 1", 0);
        fails("  c  16  @  1  ", 2);
        fails("t1 t 16 ", 3);
        fails("x1 x 41", 3);
        fails("t16 t1234", 0);
    }

    private static void nothingStays() {
        Dues.sentence("If a text fails, nothing that it has done stays.");
        String[] texts = {"c5@5 c6@6 t7 r x1 #", "x2 r", "rrr", "c1@1 r r r c", "t9 t16", "r c5@5 c5@05", "c5@5 c5@5 c5@5 x3 x3"};
        for (String text : texts) {
            ReturnPile pile = sized(2);
            runText(pile, "c0@0 c0@1 c0@2 rrr c1@1 c2@2 c3@3 x1");
            String look = lookOf(pile);
            String slots = slotsOf(pile);
            due("\"" + text + "\" fails", runText(pile, text) <= -1000 ? 1 : 0, 1);
            same("state after \"" + text + "\"", lookOf(pile), look);
            same("slots after it", slotsOf(pile), slots);
            due("misses with 2", pile.missesWith(2), 1);
            due("calls", pile.named(5), 0);
            due("no call more", pile.named(6), INVALID);
            due("undo goes to the state before the text before", pile.undo(), 1);
            due("no steps", pile.count(1), 0);
        }
    }

    private static void failingTextIsKept() {
        Dues.sentence("if it fails, the text is kept.");
        ReturnPile pile = new ReturnPile();
        append(pile, "c1@1 r r");
        due("fails", pile.run(), -1007);
        due("kept", pile.count(16), 8);
        due("no action", pile.count(15), 0);
        due("fails again", pile.run(), -1007);
        pile.call(2, 2);
        due("the same text can be run now", pile.run(), 3);
        due("empty then", pile.count(16), 0);
        append(pile, "c1");
        due("fails at its end", pile.run(), -1002);
        append(pile, "@7");
        due("goes on where it ended", pile.run(), 1);
        due("address", pile.frame(0, 2), 7);
    }

    private static void textBecomesEmpty() {
        Dues.sentence("and the text becomes empty");
        ReturnPile pile = new ReturnPile();
        due("steps", runText(pile, "c1@1 c2@2"), 2);
        due("length", pile.clearText(), 0);
        due("nothing is run again", pile.run(), 0);
        due("frames", pile.count(0), 2);
        due("a new text", pile.append('r'), 1);
        due("alone", pile.run(), 1);
        due("spaces are taken away too", runText(pile, "   "), 0);
        due("length then", pile.count(16), 0);
    }

    /** All texts of five of the signs, beside those that begin with a space, on piles with one frame. */
    private static void allShortTexts() {
        Dues.sentence("The place of a failure is the offset (from 0) of this character");
        int texts = SIGNS.length() * SIGNS.length() * SIGNS.length() * SIGNS.length() * SIGNS.length();
        for (int number = 0; number < texts && Dues.wrong() < 20; number++) {
            StringBuilder text = new StringBuilder();
            for (int rest = number, i = 0; i < 5; i++, rest /= SIGNS.length()) {
                text.append(SIGNS.charAt(rest % SIGNS.length()));
            }
            if (text.charAt(0) != ' ') {
                compareWithModel(text.toString());
            }
        }
    }

    private static void compareWithModel(String text) {
        ReturnPile pile = new ReturnPile();
        Model model = new Model();
        pile.call(1, 1);
        model.call(1, 1);
        append(pile, text);
        for (int i = 0; i < text.length(); i++) {
            model.append(text.charAt(i));
        }
        due("\"" + text + "\"", pile.run(), model.run());
        due("steps of \"" + text + "\"", pile.count(1), model.count(1));
    }
}
