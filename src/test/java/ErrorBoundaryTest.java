import java.util.function.Supplier;
import java.util.function.ToIntFunction;

/** The sentences on errors: refused calls change nothing, the first error is answered, NONE is none. */
public final class ErrorBoundaryTest extends PileChecks {
    private static final int[] WRONG = {Integer.MIN_VALUE, -1000, -9, -1, 1000, 65536, Integer.MAX_VALUE};

    private ErrorBoundaryTest() {
    }

    public static void main(String[] args) {
        refusedOnANewObject();
        refusedForWrongArguments();
        refusedForFortyFrames();
        refusedForTwoHundredSteps();
        refusedForTwoHundredStepsWithoutFrames();
        refusedForAFullText();
        refusedTexts();
        firstErrorOfSteps();
        firstErrorOfOthers();
        noneIsNoError();
        constants();
        fiveHundredAndTwelveCalls();
        Dues.end();
    }

    // ---- states

    private static ReturnPile empty() {
        ReturnPile pile = new ReturnPile();
        append(pile, "c1@1 r");
        return pile;
    }

    /** Frames that are overrun and not, confessions of both kinds, five states in the history, and a text. */
    private static ReturnPile busy() {
        ReturnPile pile = sized(3);
        runText(pile, "c0@0 c0@1 c0@2 c0@3 rrrr c1@11 c2@12 c3@13 c4@14 c5@15 x1 r");
        pile.setRepair(1);
        pile.tail(9);
        pile.call(6, 16);
        append(pile, "c7@17 t8 r x2");
        return pile;
    }

    private static ReturnPile fortyFrames() {
        ReturnPile pile = sized(16);
        callTimes(pile, 40);
        append(pile, "rt5");
        return pile;
    }

    private static ReturnPile twoHundredSteps() {
        ReturnPile pile = sized(2);
        callTimes(pile, 3);
        tailTimes(pile, 196);
        pile.ret();
        append(pile, "  ");
        return pile;
    }

    private static ReturnPile twoHundredStepsWithoutFrames() {
        ReturnPile pile = sized(2);
        callTimes(pile, 1);
        tailTimes(pile, 198);
        pile.raise(1);
        return pile;
    }

    private static ReturnPile fullText() {
        ReturnPile pile = busy();
        append(pile, " ".repeat(107));
        return pile;
    }

    // ---- a refused call changes nothing

    /** Makes a call that is due to be refused on one of two like objects; then all that they tell is compared. */
    private static void refused(String name, Supplier<ReturnPile> state, ToIntFunction<ReturnPile> call, int error) {
        ReturnPile touched = state.get();
        ReturnPile untouched = state.get();
        due(name, call.applyAsInt(touched), error);
        due(name + " once more", call.applyAsInt(touched), error);
        same("state after " + name, fullLook(touched), fullLook(untouched));
        due("text after " + name, touched.run(), untouched.run());
        for (int i = 0; i < 6; i++) {
            same("counts after " + name + " and its run", countsOf(touched), countsOf(untouched));
            due("undo " + i + " after " + name, touched.undo(), untouched.undo());
        }
    }

    /** All that an object tells, but for frames and calls beyond the first six; at most some 160 calls. */
    private static String fullLook(ReturnPile pile) {
        StringBuilder look = new StringBuilder(countsOf(pile)).append(slotsOf(pile)).append(" frames");
        int frames = Math.min(6, pile.count(0));
        for (int depth = 0; depth < frames; depth++) {
            for (int what = 0; what < 5; what++) {
                look.append(' ').append(pile.frame(depth, what));
            }
            look.append(' ').append(pile.callsUntil(depth));
        }
        look.append(" confessions");
        for (int i = 0; i < Math.min(3, pile.count(10)); i++) {
            for (int what = 0; what < 6; what++) {
                look.append(' ').append(pile.confession(i, what));
            }
        }
        look.append(" named ").append(pile.worst());
        for (int call = 0; call < 6; call++) {
            look.append(' ').append(pile.named(call));
        }
        look.append(" misses ").append(pile.ahead(Math.max(1, frames), 1)).append(' ').append(pile.bestSize());
        for (int size = 2; size <= 16; size++) {
            look.append(' ').append(pile.missesWith(size));
        }
        return look.toString();
    }

    private static void refusedOnANewObject() {
        Dues.sentence("A call that returns an error code changes nothing. (ILLEGAL_STATE on a new object)");
        refused("tail(0)", ErrorBoundaryTest::empty, pile -> pile.tail(0), ILLEGAL);
        refused("ret()", ErrorBoundaryTest::empty, ReturnPile::ret, ILLEGAL);
        refused("raise(1)", ErrorBoundaryTest::empty, pile -> pile.raise(1), ILLEGAL);
        refused("raise(40)", ErrorBoundaryTest::empty, pile -> pile.raise(40), ILLEGAL);
        refused("undo()", ErrorBoundaryTest::empty, ReturnPile::undo, ILLEGAL);
        refused("ahead(1, 0)", ErrorBoundaryTest::empty, pile -> pile.ahead(1, 0), ILLEGAL);
        refused("ahead(40, 1)", ErrorBoundaryTest::empty, pile -> pile.ahead(40, 1), ILLEGAL);
        refused("frame(0, 0)", ErrorBoundaryTest::empty, pile -> pile.frame(0, 0), INVALID);
        refused("named(0)", ErrorBoundaryTest::empty, pile -> pile.named(0), INVALID);
        refused("callsUntil(0)", ErrorBoundaryTest::empty, pile -> pile.callsUntil(0), INVALID);
    }

    private static void refusedForWrongArguments() {
        Dues.sentence("A call that returns an error code changes nothing. (INVALID_ARGUMENT)");
        for (int wrong : WRONG) {
            refused("call(" + wrong + ", 5)", ErrorBoundaryTest::busy, pile -> pile.call(wrong, 5), INVALID);
            refused("call(5, " + wrong + ")", ErrorBoundaryTest::busy, pile -> pile.call(5, wrong), INVALID);
            refused("tail(" + wrong + ")", ErrorBoundaryTest::busy, pile -> pile.tail(wrong), INVALID);
            refused("raise(" + wrong + ")", ErrorBoundaryTest::busy, pile -> pile.raise(wrong), INVALID);
            refused("setRepair(" + wrong + ")", ErrorBoundaryTest::busy, pile -> pile.setRepair(wrong), INVALID);
            refused("begin(" + wrong + ")", ErrorBoundaryTest::busy, pile -> pile.begin(wrong), INVALID);
            refused("append(" + wrong + ")", ErrorBoundaryTest::busy, pile -> pile.append(wrong), INVALID);
            refused("count(" + wrong + ")", ErrorBoundaryTest::busy, pile -> pile.count(wrong), INVALID);
            refused("frame(" + wrong + ", 0)", ErrorBoundaryTest::busy, pile -> pile.frame(wrong, 0), INVALID);
            refused("frame(0, " + wrong + ")", ErrorBoundaryTest::busy, pile -> pile.frame(0, wrong), INVALID);
            refused("slot(" + wrong + ", 0)", ErrorBoundaryTest::busy, pile -> pile.slot(wrong, 0), INVALID);
            refused("slot(0, " + wrong + ")", ErrorBoundaryTest::busy, pile -> pile.slot(0, wrong), INVALID);
            refused("confession(0, " + wrong + ")", ErrorBoundaryTest::busy, pile -> pile.confession(0, wrong), INVALID);
            refused("named(" + wrong + ")", ErrorBoundaryTest::busy, pile -> pile.named(wrong), INVALID);
            refused("ahead(" + wrong + ", 0)", ErrorBoundaryTest::busy, pile -> pile.ahead(wrong, 0), INVALID);
            refused("ahead(1, " + wrong + ")", ErrorBoundaryTest::busy, pile -> pile.ahead(1, wrong), INVALID);
            refused("missesWith(" + wrong + ")", ErrorBoundaryTest::busy, pile -> pile.missesWith(wrong), INVALID);
            refused("callsUntil(" + wrong + ")", ErrorBoundaryTest::busy, pile -> pile.callsUntil(wrong), INVALID);
        }
        refused("call(16, 5)", ErrorBoundaryTest::busy, pile -> pile.call(16, 5), INVALID);
        refused("tail(16)", ErrorBoundaryTest::busy, pile -> pile.tail(16), INVALID);
        refused("raise(0)", ErrorBoundaryTest::busy, pile -> pile.raise(0), INVALID);
        refused("raise(41)", ErrorBoundaryTest::busy, pile -> pile.raise(41), INVALID);
        refused("setRepair(2)", ErrorBoundaryTest::busy, pile -> pile.setRepair(2), INVALID);
        refused("begin(1)", ErrorBoundaryTest::busy, pile -> pile.begin(1), INVALID);
        refused("begin(17)", ErrorBoundaryTest::busy, pile -> pile.begin(17), INVALID);
        refused("append(0)", ErrorBoundaryTest::busy, pile -> pile.append(0), INVALID);
        refused("append(256)", ErrorBoundaryTest::busy, pile -> pile.append(256), INVALID);
        refused("missesWith(1)", ErrorBoundaryTest::busy, pile -> pile.missesWith(1), INVALID);
        refused("missesWith(17)", ErrorBoundaryTest::busy, pile -> pile.missesWith(17), INVALID);
        refused("raise(5) of four frames", ErrorBoundaryTest::busy, pile -> pile.raise(5), ILLEGAL);
        refused("ahead(5, 0) of four frames", ErrorBoundaryTest::busy, pile -> pile.ahead(5, 0), ILLEGAL);
        refused("confession(-1, 0)", ErrorBoundaryTest::busy, pile -> pile.confession(-1, 0), INVALID);
        refused("confession(2, 0) of two", ErrorBoundaryTest::busy, pile -> pile.confession(2, 0), NONE);
    }

    private static void refusedForFortyFrames() {
        Dues.sentence("A call that returns an error code changes nothing. (CAPACITY_EXCEEDED for 40 frames)");
        refused("call(0, 0)", ErrorBoundaryTest::fortyFrames, pile -> pile.call(0, 0), FULL);
        refused("call(15, 999)", ErrorBoundaryTest::fortyFrames, pile -> pile.call(15, 999), FULL);
        refused("frame(40, 0)", ErrorBoundaryTest::fortyFrames, pile -> pile.frame(40, 0), INVALID);
        refused("callsUntil(40)", ErrorBoundaryTest::fortyFrames, pile -> pile.callsUntil(40), INVALID);
        refused("ahead(41, 0)", ErrorBoundaryTest::fortyFrames, pile -> pile.ahead(41, 0), INVALID);
        refused("raise(41)", ErrorBoundaryTest::fortyFrames, pile -> pile.raise(41), INVALID);
    }

    private static void refusedForTwoHundredSteps() {
        Dues.sentence("A call that returns an error code changes nothing. (CAPACITY_EXCEEDED for 200 steps)");
        refused("call(0, 0)", ErrorBoundaryTest::twoHundredSteps, pile -> pile.call(0, 0), FULL);
        refused("tail(0)", ErrorBoundaryTest::twoHundredSteps, pile -> pile.tail(0), FULL);
        refused("ret()", ErrorBoundaryTest::twoHundredSteps, ReturnPile::ret, FULL);
        refused("raise(1)", ErrorBoundaryTest::twoHundredSteps, pile -> pile.raise(1), FULL);
        refused("raise(2)", ErrorBoundaryTest::twoHundredSteps, pile -> pile.raise(2), FULL);
        refused("raise(3)", ErrorBoundaryTest::twoHundredSteps, pile -> pile.raise(3), ILLEGAL);
    }

    private static void refusedForTwoHundredStepsWithoutFrames() {
        Dues.sentence("A call that returns an error code changes nothing. (200 steps and no frame)");
        refused("call(0, 0)", ErrorBoundaryTest::twoHundredStepsWithoutFrames, pile -> pile.call(0, 0), FULL);
        refused("tail(0)", ErrorBoundaryTest::twoHundredStepsWithoutFrames, pile -> pile.tail(0), ILLEGAL);
        refused("ret()", ErrorBoundaryTest::twoHundredStepsWithoutFrames, ReturnPile::ret, ILLEGAL);
        refused("raise(1)", ErrorBoundaryTest::twoHundredStepsWithoutFrames, pile -> pile.raise(1), ILLEGAL);
    }

    private static void refusedForAFullText() {
        Dues.sentence("A call that returns an error code changes nothing. (CAPACITY_EXCEEDED for 120 characters)");
        due("characters", fullText().count(16), 120);
        refused("append(32)", ErrorBoundaryTest::fullText, pile -> pile.append(32), FULL);
        refused("append(1)", ErrorBoundaryTest::fullText, pile -> pile.append(1), FULL);
        refused("append(255)", ErrorBoundaryTest::fullText, pile -> pile.append(255), FULL);
    }

    private static void refusedTexts() {
        Dues.sentence("A call that returns an error code changes nothing. (a text that fails)");
        String[] endings = {"#", "x3", "c", "c00", "c1@1234", "t16", "rrrrrrr"};
        int[] places = {13, 13, 14, 14, 16, 13, 15};
        due("places", places.length, endings.length);
        for (int i = 0; i < endings.length; i++) {
            String ending = endings[i];
            Supplier<ReturnPile> state = () -> {
                ReturnPile pile = busy();
                append(pile, ending);
                return pile;
            };
            refused("run() of a text that ends with " + ending, state, ReturnPile::run, -1000 - places[i]);
        }
    }

    // ---- which error

    private static void firstErrorOfSteps() {
        Dues.sentence("If several error conditions apply, the method returns the one that its description lists first");
        ReturnPile none = new ReturnPile();
        due("tail: wrong and no frame", none.tail(16), INVALID);
        due("raise: wrong and no frame", none.raise(41), INVALID);
        ReturnPile forty = fortyFrames();
        due("call: wrong function and forty frames", forty.call(16, 0), INVALID);
        due("call: wrong address and forty frames", forty.call(0, 1000), INVALID);
        ReturnPile steps = twoHundredSteps();
        due("call: wrong and two hundred steps", steps.call(-1, 0), INVALID);
        due("tail: wrong and two hundred steps", steps.tail(-1), INVALID);
        due("raise: wrong and two hundred steps", steps.raise(0), INVALID);
        due("raise: too few frames and two hundred steps", steps.raise(3), ILLEGAL);
        ReturnPile both = twoHundredStepsWithoutFrames();
        due("call: wrong function and address, and two hundred steps", both.call(16, -1), INVALID);
        due("tail: wrong, no frame and two hundred steps", both.tail(16), INVALID);
        due("tail: no frame and two hundred steps", both.tail(15), ILLEGAL);
        due("ret: no frame and two hundred steps", both.ret(), ILLEGAL);
        due("raise: wrong, no frame and two hundred steps", both.raise(0), INVALID);
        due("raise: no frame and two hundred steps", both.raise(40), ILLEGAL);
    }

    private static void firstErrorOfOthers() {
        Dues.sentence("the one that its description lists first");
        ReturnPile full = fullText();
        due("append: wrong and full", full.append(0), INVALID);
        due("append: wrong above and full", full.append(256), INVALID);
        due("append: full", full.append(1), FULL);
        ReturnPile none = new ReturnPile();
        due("ahead: wrong returns and no frame", none.ahead(41, 0), INVALID);
        due("ahead: no returns and no frame", none.ahead(0, 0), INVALID);
        due("ahead: wrong what and no frame", none.ahead(1, 2), INVALID);
        due("ahead: no frame", none.ahead(1, 1), ILLEGAL);
        ReturnPile busy = busy();
        due("ahead: wrong what and too few frames", busy.ahead(40, -1), INVALID);
        due("ahead: too few frames", busy.ahead(40, 1), ILLEGAL);
    }

    private static void noneIsNoError() {
        Dues.sentence("NONE is no error, and it is returned only if no error condition applies.");
        ReturnPile pile = new ReturnPile();
        due("confession: none kept", pile.confession(0, 0), NONE);
        due("confession: none kept and a wrong what", pile.confession(0, 6), INVALID);
        due("confession: none kept and a negative what", pile.confession(0, -1), INVALID);
        due("confession: a negative index", pile.confession(-1, 0), INVALID);
        due("confession: the smallest index", pile.confession(Integer.MIN_VALUE, 0), INVALID);
        due("confession: the greatest index", pile.confession(Integer.MAX_VALUE, 0), NONE);
        due("confession: the greatest index and a wrong what", pile.confession(Integer.MAX_VALUE, 6), INVALID);
        due("slot: empty", pile.slot(0, 1), NONE);
        due("slot: empty and a wrong what", pile.slot(0, 3), INVALID);
        due("slot: none such", pile.slot(8, 1), INVALID);
        due("frame: none such", pile.frame(0, 4), INVALID);
        due("worst: none named", pile.worst(), NONE);
        pile.call(1, 1);
        due("frame: not overrun", pile.frame(0, 4), NONE);
        due("frame: not overrun and a wrong what", pile.frame(0, 5), INVALID);
        due("named: no such call", pile.named(1), INVALID);
        due("what tells NONE is no action", pile.count(15), 1);
    }

    private static void constants() {
        Dues.sentence("The constants");
        due("INVALID_ARGUMENT", ReturnPile.INVALID_ARGUMENT, -1);
        due("ILLEGAL_STATE", ReturnPile.ILLEGAL_STATE, -2);
        due("CAPACITY_EXCEEDED", ReturnPile.CAPACITY_EXCEEDED, -3);
        due("NONE", ReturnPile.NONE, -9);
    }

    private static void fiveHundredAndTwelveCalls() {
        Dues.sentence("An object is used for at most 512 calls after it has been made");
        ReturnPile pile = new ReturnPile();
        for (int i = 0; i < 127; i++) {
            pile.begin(2);
            runText(pile, "r");
        }
        due("the 509th call", pile.clearText(), 1);
        due("the 510th call", pile.call(3, 3), 0);
        due("the 511th call", pile.undo(), 4);
        due("the 512th call", pile.count(11), 2);
    }
}
