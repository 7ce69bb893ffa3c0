/** One test for each sentence of the document's terms, but for texts and errors, that names a boundary. */
public final class TermsBoundaryTest extends PileChecks {
    private TermsBoundaryTest() {
    }

    public static void main(String[] args) {
        numbersFromZero();
        numbersAfterUndo();
        fortyFrames();
        functionsAndAddresses();
        tailCallKeepsTheFrame();
        lastFrameReturns();
        throwsAtOnce();
        twoToSixteenSlots();
        topAtFirst();
        callsGoAround();
        callsWriteOverWhateverIsThere();
        returnsGoAround();
        entriesStay();
        tailCallsLeaveThePile();
        throwsWithRepairGoAround();
        throwsWithoutRepair();
        overrunBySizeCalls();
        overrunByTheFirst();
        notOverrunByItself();
        luckyHits();
        missesOfKindOne();
        missesOfKindTwo();
        guessesAreNeverEmpty();
        twelveConfessions();
        twoHundredSteps();
        allStepsAreRemembered();
        fiveStates();
        stateIsAllButTextAndHistory();
        beginKeepsTheHistory();
        beginMakesAllAsAtFirst();
        actionsThatChangeNothing();
        noActions();
        sixthStateDropsTheOldest();
        undoGoesBackByOne();
        Dues.end();
    }

    private static int around(int number, int size) {
        return Math.floorMod(number, size);
    }

    // ---- frames

    private static void numbersFromZero() {
        Dues.sentence("Calls are numbered from 0 in the order in which they were made");
        ReturnPile pile = new ReturnPile();
        due("first", pile.call(9, 9), 0);
        pile.tail(1);
        pile.ret();
        due("after a return", pile.call(9, 9), 1);
        pile.raise(1);
        due("after a throw", pile.call(9, 9), 2);
        due("refused", pile.call(16, 9), INVALID);
        due("after a refused one", pile.call(9, 9), 3);
        runText(pile, "c1@1 c1@1");
        due("after a text", pile.call(9, 9), 6);
        runText(pile, "c1@1 c1@1 c99@1");
        due("after a text that fails", pile.call(9, 9), 7);
        ReturnPile many = new ReturnPile();
        for (int i = 0; i < 100; i++) {
            due("call " + i, many.call(0, i), i);
            due("frame of call " + i, many.frame(0, 0), i);
            many.ret();
        }
    }

    private static void numbersAfterUndo() {
        Dues.sentence("their numbers go on after undo() as they were in the state that is restored");
        ReturnPile pile = new ReturnPile();
        pile.call(0, 0);
        pile.undo();
        due("the first again", pile.call(0, 0), 0);
        pile.call(0, 0);
        pile.ret();
        pile.undo();
        due("after an undone return", pile.call(0, 0), 2);
        pile.begin(4);
        due("begun anew", pile.call(0, 0), 0);
        pile.undo();
        pile.undo();
        due("after an undone begin", pile.call(0, 0), 3);
        runText(pile, "c0@0 c0@0 c0@0");
        pile.undo();
        due("after an undone text", pile.call(0, 0), 4);
        due("the last call", pile.named(4), 0);
        due("an undone one", pile.named(5), INVALID);
    }

    private static void fortyFrames() {
        Dues.sentence("There is a stack of at most 40 frames, empty at first.");
        ReturnPile pile = new ReturnPile();
        due("empty", pile.count(0), 0);
        due("no top frame", pile.frame(0, 0), INVALID);
        for (int i = 0; i < 40; i++) {
            due("frames ahead of call " + i, pile.count(0), i);
            due("call " + i, pile.call(i % 16, i), i);
        }
        due("one too many", pile.call(0, 0), FULL);
        due("still forty", pile.count(0), 40);
        due("the top frame", pile.frame(0, 0), 39);
        due("the last frame", pile.frame(39, 0), 0);
        due("below the last frame", pile.frame(40, 0), INVALID);
        pile.raise(1);
        due("room again", pile.call(0, 0), 40);
        due("full again", pile.call(0, 0), FULL);
        pile.undo();
        due("undone room", pile.call(0, 0), 40);
        pile.ret();
        due("room after a return", pile.call(0, 0), 41);
        due("greatest number", pile.count(13), 40);
    }

    private static void functionsAndAddresses() {
        Dues.sentence("A call adds a frame, with its number, its function (0 to 15) and its return address (0 to 999).");
        for (int function = 0; function <= 15; function++) {
            ReturnPile pile = new ReturnPile();
            due("function " + function, pile.call(function, 5), 0);
            due("function of the frame", pile.frame(0, 1), function);
            due("tail of " + function, pile.tail(15 - function), function);
            due("function put there", pile.frame(0, 1), 15 - function);
        }
        for (int address = 0; address <= 999; address++) {
            ReturnPile pile = new ReturnPile();
            due("address " + address, pile.call(5, address), 0);
            due("address of the frame", pile.frame(0, 2), address);
            due("address of the entry", pile.slot(0, 1), address);
            due("hit", pile.ret(), 0);
        }
    }

    private static void tailCallKeepsTheFrame() {
        Dues.sentence("A tail call puts another function into the top frame, which keeps its number and its return address.");
        ReturnPile pile = withCalls(2, 40);
        due("with forty frames", pile.tail(3), 39 % 16);
        due("forty frames", pile.count(0), 40);
        due("function", pile.frame(0, 1), 3);
        due("number", pile.frame(0, 0), 39);
        due("address", pile.frame(0, 2), 139);
        due("slot", pile.frame(0, 3), 1);
        due("the frame below", pile.frame(1, 1), 38 % 16);
        pile.raise(39);
        due("of the last frame", pile.tail(15), 0);
        due("number of the last frame", pile.frame(0, 0), 0);
        due("it is still overrun", pile.frame(0, 4), 2);
        pile.raise(1);
        due("without a frame", pile.tail(15), ILLEGAL);
    }

    private static void lastFrameReturns() {
        Dues.sentence("A return removes the top frame.");
        ReturnPile pile = withCalls(16, 3);
        pile.ret();
        due("frames", pile.count(0), 2);
        due("the new top", pile.frame(0, 0), 1);
        pile.ret();
        pile.ret();
        due("empty", pile.count(0), 0);
        due("no top", pile.frame(0, 0), INVALID);
        due("without a frame", pile.ret(), ILLEGAL);
        due("still empty", pile.count(0), 0);
    }

    private static void throwsAtOnce() {
        Dues.sentence("A throw removes some top frames at once, without returns.");
        for (int frames = 1; frames <= 40; frames++) {
            ReturnPile pile = withCalls(2, 40);
            due("throw of " + frames, pile.raise(frames), 40 - frames);
            due("frames", pile.count(0), 40 - frames);
            due("the new top", pile.frame(0, 0), frames < 40 ? 39 - frames : INVALID);
            due("one step", pile.count(1), 41);
            due("one throw", pile.count(5), 1);
            due("no returns", pile.count(4), 0);
            due("no hits", pile.count(6), 0);
            due("no misses", pile.count(8) + pile.count(9) + pile.count(10), 0);
            due("one frame too many", frames > 20 ? pile.raise(41 - frames) : ILLEGAL, ILLEGAL);
        }
    }

    // ---- pile

    private static void twoToSixteenSlots() {
        Dues.sentence("The pile has 2 to 16 slots (at first 8), numbered from 0; a slot is empty (all are at first)");
        due("at first", new ReturnPile().count(11), 8);
        for (int size = 2; size <= 16; size++) {
            ReturnPile pile = sized(size);
            due("size", pile.count(11), size);
            due("slot -1", pile.slot(-1, 0), INVALID);
            due("slot " + size, pile.slot(size, 0), INVALID);
            for (int slot = 0; slot < size; slot++) {
                due("call in slot " + slot, pile.slot(slot, 0), NONE);
                due("address in slot " + slot, pile.slot(slot, 1), NONE);
                due("writes of slot " + slot, pile.slot(slot, 2), 0);
            }
        }
        ReturnPile wide = withCalls(16, 16);
        wide.begin(2);
        wide.begin(16);
        due("empty after a smaller pile", wide.slot(15, 0), NONE);
        due("unwritten after a smaller pile", wide.slot(15, 2), 0);
    }

    private static void topAtFirst() {
        Dues.sentence("One slot is the top, at first the last one.");
        due("at first", new ReturnPile().count(12), 7);
        for (int size = 2; size <= 16; size++) {
            ReturnPile pile = sized(size);
            due("last of " + size, pile.count(12), size - 1);
            pile.call(0, 0);
            pile.begin(size);
            due("last again", pile.count(12), size - 1);
        }
    }

    private static void callsGoAround() {
        Dues.sentence("A call goes on to the next slot (behind the last one comes slot 0), which is the top then");
        for (int size = 2; size <= 16; size++) {
            ReturnPile pile = sized(size);
            for (int i = 0; i < 40; i++) {
                pile.call(0, i);
                due("top after call " + i + " of size " + size, pile.count(12), i % size);
                due("slot of its frame", pile.frame(0, 3), i % size);
            }
        }
    }

    private static void callsWriteOverWhateverIsThere() {
        Dues.sentence("and writes its entry there, whatever is there.");
        for (int size = 2; size <= 16; size++) {
            ReturnPile pile = sized(size);
            for (int i = 0; i < 40; i++) {
                pile.call(0, 999 - i);
                due("call in its slot", pile.slot(i % size, 0), i);
                due("address in its slot", pile.slot(i % size, 1), 999 - i);
                due("writes of its slot", pile.slot(i % size, 2), i / size + 1);
                due("call in the next slot", pile.slot((i + 1) % size, 0), i + 1 < size ? NONE : i + 1 - size);
            }
        }
        ReturnPile again = new ReturnPile();
        for (int i = 0; i < 100; i++) {
            again.call(0, 7);
            again.ret();
        }
        due("the same slot a hundred times", again.slot(0, 2), 100);
        due("the latest one stands there", again.slot(0, 0), 99);
        due("the next slot was never written", again.slot(1, 2), 0);
    }

    private static void returnsGoAround() {
        Dues.sentence("A return goes back to the slot before (before slot 0 comes the last one), which is the top then");
        for (int size = 2; size <= 16; size++) {
            ReturnPile pile = withCalls(size, 40);
            for (int i = 38; i >= -1; i--) {
                pile.ret();
                due("top of size " + size + " after the return to call " + i, pile.count(12), around(i, size));
            }
        }
        ReturnPile one = new ReturnPile();
        one.call(0, 0);
        one.ret();
        due("from slot 0 to the last one", one.count(12), 7);
        one.call(0, 0);
        due("and on to slot 0", one.count(12), 0);
    }

    private static void entriesStay() {
        Dues.sentence("the entry stays where it is.");
        for (int size = 2; size <= 16; size++) {
            ReturnPile pile = withCalls(size, 40);
            String slots = slotsOf(pile).split(":")[1];
            returnTimes(pile, 40);
            same("slots of " + size + " after all returns", slotsOf(pile).split(":")[1], slots);
        }
    }

    private static void tailCallsLeaveThePile() {
        Dues.sentence("A tail call does not change the pile.");
        ReturnPile one = withCalls(2, 1);
        String slots = slotsOf(one);
        one.tail(7);
        same("one frame", slotsOf(one), slots);
        due("hit", one.ret(), 0);
        ReturnPile many = withCalls(3, 40);
        slots = slotsOf(many);
        tailTimes(many, 40);
        same("forty frames", slotsOf(many), slots);
        due("nothing more is overrun", many.count(17), 37);
    }

    private static void throwsWithRepairGoAround() {
        Dues.sentence("A throw goes back by one slot for each removed frame if repair is 1");
        for (int size = 2; size <= 16; size++) {
            for (int frames = 1; frames <= 40; frames++) {
                ReturnPile pile = withCalls(size, 40);
                pile.setRepair(1);
                pile.raise(frames);
                due("top of size " + size + " after a throw of " + frames, pile.count(12), around(39 - frames, size));
                due("writes of slot 0", pile.slot(0, 2), (39 + size) / size);
                due("entry of slot 0", pile.slot(0, 0), 39 / size * size);
            }
        }
    }

    private static void throwsWithoutRepair() {
        Dues.sentence("(0 or 1; at first 0), otherwise it does not change the pile.");
        due("at first", new ReturnPile().count(14), 0);
        for (int size = 2; size <= 16; size++) {
            for (int frames = 1; frames <= 40; frames += 13) {
                ReturnPile pile = withCalls(size, 40);
                String slots = slotsOf(pile);
                pile.raise(frames);
                same("size " + size + " and a throw of " + frames, slotsOf(pile), slots);
            }
        }
        ReturnPile off = withCalls(2, 2);
        off.setRepair(1);
        off.setRepair(0);
        off.raise(1);
        due("repair is off again", off.count(12), 1);
    }

    private static void overrunBySizeCalls() {
        Dues.sentence("It is overrun if another call has written into this slot since");
        for (int size = 2; size <= 16; size++) {
            ReturnPile pile = withCalls(size, size);
            due("none by size calls", pile.count(17), 0);
            due("the last frame is not", pile.frame(size - 1, 4), NONE);
            pile.call(0, 0);
            due("one by one call more", pile.count(17), 1);
            due("the last frame is", pile.frame(size, 4), size);
            due("the one above it is not", pile.frame(size - 1, 4), NONE);
            pile.ret();
            due("also when that call has returned", pile.frame(size - 1, 4), size);
            pile.undo();
            pile.undo();
            due("not when that call is undone", pile.frame(size - 1, 4), NONE);
        }
        for (int size = 2; size <= 16; size++) {
            due("all but the latest of forty", withCalls(size, 40).count(17), 40 - size);
        }
    }

    private static void overrunByTheFirst() {
        Dues.sentence("it was overrun by the first call that did so.");
        for (int size = 2; size <= 16; size++) {
            ReturnPile pile = withCalls(size, 40);
            for (int call = 0; call < 40; call++) {
                due("overrun call " + call, pile.frame(39 - call, 4), call + size < 40 ? call + size : NONE);
            }
        }
        ReturnPile again = withCalls(2, 3);
        for (int i = 0; i < 50; i++) {
            again.ret();
            again.call(0, 0);
        }
        due("fifty writers later", again.frame(2, 4), 2);
    }

    private static void notOverrunByItself() {
        Dues.sentence("Each frame remembers the slot into which its call wrote.");
        ReturnPile pile = sized(2);
        pile.call(0, 1);
        due("its own call is not another one", pile.frame(0, 4), NONE);
        pile.call(0, 2);
        pile.raise(1);
        pile.call(0, 3);
        due("overrun beside its frame", pile.frame(1, 4), 2);
        due("the slot of the new frame", pile.frame(0, 3), 0);
        due("the slot of the frame below", pile.frame(1, 3), 0);
        pile.ret();
        due("the top is elsewhere", pile.count(12), 1);
        due("the slot is remembered", pile.frame(0, 3), 0);
    }

    // ---- guesses

    private static void luckyHits() {
        Dues.sentence("it is a lucky hit if this entry is that of another call.");
        for (int size = 2; size <= 16; size++) {
            ReturnPile pile = sized(size);
            for (int i = 0; i <= size; i++) {
                pile.call(0, 0);
            }
            due("all but the last", pile.ahead(size, 0), size);
            for (int i = 0; i < size; i++) {
                due("hit", pile.ret(), 0);
            }
            due("lucky hit of an overrun frame", pile.ret(), 1);
            due("hits", pile.count(6), size + 1);
            due("lucky hits", pile.count(7), 1);
            due("no confessions", pile.count(10), 0);
        }
        ReturnPile thrown = new ReturnPile();
        runText(thrown, "c0@999 c0@999 x1");
        due("lucky hit of a frame that is not overrun", thrown.ret(), 1);
    }

    private static void missesOfKindOne() {
        Dues.sentence("of the kind 1 if the frame is overrun, with the call by which it was overrun for its culprit");
        ReturnPile pile = sized(2);
        runText(pile, "c0@0 c0@1 c0@2 r c0@3 r r r");
        due("kind", pile.confession(0, 0), 1);
        due("the first of two that overran it", pile.confession(0, 1), 2);
        due("the guess is the address of the second", pile.confession(0, 3), 3);
        due("the address 0", pile.confession(0, 4), 0);
        due("named", pile.named(2), 1);
        due("not named", pile.named(3), 0);
        ReturnPile beside = sized(3);
        runText(beside, "c0@0 c0@1 c0@2 c0@3 x3");
        due("overrun, with another top", beside.ret(), 2);
        due("culprit", beside.confession(0, 1), 3);
        ReturnPile other = sized(3);
        runText(other, "c0@0 c0@1 c0@2 c0@3 x2 r");
        due("misled by the overrunning call", other.confession(0, 0), 2);
        other.ret();
        due("overrun, misled by a third call", other.confession(0, 0), 1);
        due("the culprit overran it", other.confession(0, 1), 3);
        due("the guess is of the third", other.confession(0, 3), 2);
    }

    private static void missesOfKindTwo() {
        Dues.sentence("otherwise of the kind 2, with the call whose entry the top has for its culprit");
        ReturnPile pile = sized(16);
        runText(pile, "c0@5 c0@0 x1 r");
        due("kind", pile.confession(0, 0), 2);
        due("culprit", pile.confession(0, 1), 1);
        due("the guess 0", pile.confession(0, 3), 0);
        due("the call 0", pile.confession(0, 2), 0);
        due("the step", pile.confession(0, 5), 3);
        ReturnPile round = sized(3);
        runText(round, "c0@0 c0@1 c0@2 c0@3 x1");
        due("the frame in the last slot, with slot 0 as the top", round.ret(), 3);
        due("the entry of slot 0", round.confession(0, 1), 3);
        due("the frame before it, with the last slot as the top", round.ret(), 3);
        due("the entry of the last slot", round.confession(0, 1), 2);
    }

    /**
     * The top is never empty while there is a frame: it stands at the frames' number or farther, and no call leaves
     * out a slot. So no miss can have NONE for its culprit; each row of six steps shows it.
     */
    private static void guessesAreNeverEmpty() {
        Dues.sentence("(NONE if it is empty)");
        int rows = 7 * 7 * 7 * 7 * 7 * 7;
        for (int row = 0; row < rows; row++) {
            ReturnPile pile = sized(row % 2 + 2);
            int rest = row;
            for (int i = 0; i < 6; i++) {
                stepOfRow(pile, rest % 7, i);
                rest /= 7;
                if (pile.count(0) > 0 && pile.slot(pile.count(12), 0) == NONE) {
                    due("row " + row + ": calls in the top", 0, 1);
                }
            }
            for (int i = 0; i < pile.count(10); i++) {
                if (pile.confession(i, 1) < 0 || pile.confession(i, 3) < 0) {
                    due("row " + row + ": confession without a culprit or a guess", 1, 0);
                }
            }
        }
        due("an empty pile has no frame to return from", new ReturnPile().ret(), ILLEGAL);
    }

    private static void stepOfRow(ReturnPile pile, int kind, int address) {
        switch (kind) {
            case 0: case 1: pile.call(0, address); break;
            case 2: pile.ret(); break;
            case 3: pile.raise(1); break;
            case 4: pile.raise(2); break;
            case 5: pile.setRepair(1 - pile.count(14)); break;
            default: pile.undo(); break;
        }
    }

    private static void twelveConfessions() {
        Dues.sentence("The latest 12 confessions are kept.");
        for (int misses = 0; misses <= 38; misses++) {
            ReturnPile pile = withCalls(2, misses + 2);
            returnTimes(pile, misses + 2);
            int kept = Math.min(misses, 12);
            due("misses", pile.count(8), misses);
            due("kept of " + misses, pile.count(10), kept);
            due("behind the kept ones", pile.confession(kept, 0), NONE);
            due("the latest", pile.confession(0, 2), misses > 0 ? 0 : NONE);
            due("the oldest kept", kept > 0 ? pile.confession(kept - 1, 2) : -1, kept - 1);
        }
        ReturnPile pile = withCalls(2, 15);
        returnTimes(pile, 15);
        due("the first is dropped", pile.confession(11, 2), 11);
        pile.undo();
        due("twelve when undone", pile.count(10), 12);
        due("the first is back", pile.confession(11, 2), 12);
    }

    // ---- steps

    private static void twoHundredSteps() {
        Dues.sentence("Calls, tail calls, returns and throws are the steps; there are at most 200 of them.");
        for (int kind = 0; kind < 4; kind++) {
            ReturnPile pile = withCalls(8, 3);
            tailTimes(pile, 196);
            due("steps", pile.count(1), 199);
            due("kind " + kind + " as the last step", stepOf(pile, kind) >= 0 ? 1 : 0, 1);
            due("all steps", pile.count(1), 200);
            for (int other = 0; other < 4; other++) {
                due("kind " + other + " behind it", stepOf(pile, other), FULL);
            }
            due("still all steps", pile.count(1), 200);
            due("a text without steps", pile.run(), 0);
            due("a text with a step", runText(pile, "  t1"), -1002);
            due("the text of a step is kept", pile.count(16), 4);
            pile.undo();
            pile.undo();
            due("the last step is undone", pile.count(1), 199);
            due("a text with two steps", runText(pile, "t1 t1"), -1003);
            due("nothing of it stays", pile.count(1), 199);
            due("a text with one step", runText(pile, "t1 "), 1);
            due("all steps by a text", pile.count(1), 200);
        }
    }

    private static int stepOf(ReturnPile pile, int kind) {
        switch (kind) {
            case 0: return pile.call(1, 1);
            case 1: return pile.tail(1);
            case 2: return pile.ret();
            default: return pile.raise(1);
        }
    }

    private static void allStepsAreRemembered() {
        Dues.sentence("All steps so far are remembered.");
        ReturnPile pile = withCalls(2, 3);
        tailTimes(pile, 194);
        returnTimes(pile, 2);
        due("without the last step", pile.missesWith(2), 0);
        due("the last step", pile.ret(), 2);
        due("two hundred steps", pile.count(1), 200);
        due("from the first to the last", pile.missesWith(2), 1);
        due("with three slots", pile.missesWith(3), 0);
        due("best size", pile.bestSize(), 3);
        pile.undo();
        due("the last one is undone", pile.missesWith(2), 0);
        pile.begin(2);
        due("none is left", pile.missesWith(2), 0);
    }

    // ---- undo

    private static void fiveStates() {
        Dues.sentence("A history of at most 5 states is kept");
        ReturnPile pile = new ReturnPile();
        due("none at first", pile.count(15), 0);
        for (int i = 1; i <= 12; i++) {
            pile.call(0, i);
            due("after action " + i, pile.count(15), Math.min(i, 5));
        }
        for (int left = 4; left >= 0; left--) {
            due("undo", pile.undo(), left);
            due("states", pile.count(15), left);
            due("calls", pile.count(2), left + 8 - 1);
        }
        due("empty", pile.undo(), ILLEGAL);
        due("nothing changes by it", pile.count(2), 7);
    }

    private static void stateIsAllButTextAndHistory() {
        Dues.sentence("a state is everything but the text and the history.");
        ReturnPile pile = sized(2);
        runText(pile, "c0@0 c0@1 c0@2 rrr c1@1 c2@2 c3@3 c4@4 x1");
        pile.setRepair(1);
        String look = lookOf(pile);
        String slots = slotsOf(pile);
        pile.begin(16);
        pile.setRepair(0);
        runText(pile, "c9@9 c8@8 t7 x1 r");
        append(pile, "c3@");
        pile.undo();
        pile.undo();
        due("history", pile.undo(), 2);
        same("state", lookOf(pile), look);
        same("slots", slotsOf(pile), slots);
        due("named", pile.named(2), 1);
        due("the text stays", pile.count(16), 3);
        pile.append('4');
        due("and can be run", pile.run(), 1);
        due("its address", pile.frame(0, 2), 4);
        due("undo of the text", pile.undo(), 2);
        due("the text that was run does not come back", pile.count(16), 0);
    }

    private static void beginKeepsTheHistory() {
        Dues.sentence("all is as at first but repair and the text. This is an action.");
        ReturnPile pile = new ReturnPile();
        pile.call(1, 1);
        pile.setRepair(1);
        pile.append('r');
        due("begin", pile.begin(4), 8);
        same("counts", countsOf(pile), "0 0 0 0 0 0 0 0 0 0 0 4 3 0 1 3 1 0 ");
        due("begin is undone", pile.undo(), 2);
        due("the frame is back", pile.frame(0, 2), 1);
        due("setRepair is undone", pile.undo(), 1);
        due("repair", pile.count(14), 0);
        due("call is undone", pile.undo(), 0);
        due("no frame", pile.count(0), 0);
        due("the text stays", pile.count(16), 1);
        for (int i = 0; i < 7; i++) {
            pile.begin(2 + i);
            due("states after begin " + i, pile.count(15), Math.min(i + 1, 5));
        }
        pile.begin(1);
        pile.begin(17);
        for (int i = 0; i < 5; i++) {
            pile.undo();
        }
        due("size ahead of the last five", pile.count(11), 3);
    }

    private static void beginMakesAllAsAtFirst() {
        Dues.sentence("Begins anew, with another size of the pile: all is as at first");
        for (int size = 2; size <= 16; size++) {
            ReturnPile pile = withCalls(2, 40);
            tailTimes(pile, 3);
            returnTimes(pile, 30);
            pile.raise(1);
            due("begin", pile.begin(size), 2);
            same("counts", countsOf(pile), "0 0 0 0 0 0 0 0 0 0 0 " + size + " " + (size - 1) + " 0 0 5 0 0 ");
            same("slots", slotsOf(pile), "top " + (size - 1) + ":" + " -9 -9 0".repeat(size));
            due("frame", pile.frame(0, 0), INVALID);
            due("confession", pile.confession(0, 0), NONE);
            due("call", pile.named(0), INVALID);
            due("worst", pile.worst(), NONE);
            due("misses", pile.missesWith(2), 0);
            due("best size", pile.bestSize(), 2);
        }
    }

    private static void actionsThatChangeNothing() {
        Dues.sentence("records the state before it (also if nothing changes by it)");
        ReturnPile pile = new ReturnPile();
        pile.setRepair(0);
        due("setRepair", pile.count(15), 1);
        pile.begin(8);
        due("begin", pile.count(15), 2);
        pile.run();
        due("run", pile.count(15), 3);
        pile.call(5, 5);
        pile.tail(5);
        due("tail", pile.count(15), 5);
        pile.tail(5);
        due("tail again", pile.count(15), 5);
        for (int left = 4; left > 2; left--) {
            due("undo of tail", pile.undo(), left);
            due("the frame is there", pile.frame(0, 1), 5);
        }
        due("undo of call", pile.undo(), 2);
        due("no frame", pile.count(0), 0);
    }

    private static void noActions() {
        Dues.sentence("Every successful call of a method that is called an action records the state before it");
        ReturnPile pile = new ReturnPile();
        pile.call(1, 1);
        pile.call(16, 1);
        pile.tail(16);
        pile.raise(2);
        pile.raise(0);
        pile.setRepair(2);
        pile.begin(1);
        due("refused calls record nothing", pile.count(15), 1);
        append(pile, "c");
        pile.run();
        due("a text that fails records nothing", pile.count(15), 1);
        pile.clearText();
        pile.ahead(1, 0);
        pile.missesWith(5);
        pile.bestSize();
        pile.callsUntil(0);
        pile.worst();
        due("what is no action records nothing", pile.count(15), 1);
        due("undo records nothing", pile.undo(), 0);
        due("empty", pile.undo(), ILLEGAL);
        due("a refused undo records nothing", pile.count(15), 0);
    }

    private static void sixthStateDropsTheOldest() {
        Dues.sentence("when a sixth one is recorded, the oldest one is dropped.");
        for (int kind = 0; kind < 7; kind++) {
            ReturnPile pile = new ReturnPile();
            callTimes(pile, 5);
            due("five", pile.count(15), 5);
            actionOf(pile, kind);
            due("five again after action " + kind, pile.count(15), 5);
            for (int left = 4; left >= 0; left--) {
                due("undo", pile.undo(), left);
                due("frames", pile.count(0), left + 1);
            }
            due("the first state is dropped", pile.undo(), ILLEGAL);
            due("one frame is left", pile.frame(0, 2), 100);
        }
    }

    private static void actionOf(ReturnPile pile, int kind) {
        switch (kind) {
            case 4: pile.setRepair(0); break;
            case 5: pile.begin(9); break;
            case 6: pile.run(); break;
            default: stepOf(pile, kind); break;
        }
    }

    private static void undoGoesBackByOne() {
        Dues.sentence("undo() removes the latest state from the history and restores it.");
        ReturnPile pile = new ReturnPile();
        due("empty", pile.undo(), ILLEGAL);
        callTimes(pile, 3);
        due("undo", pile.undo(), 2);
        due("two frames", pile.count(0), 2);
        due("undo again", pile.undo(), 1);
        due("one frame", pile.count(0), 1);
        pile.call(9, 9);
        due("recorded behind what is left", pile.count(15), 2);
        due("undo of the new one", pile.undo(), 1);
        due("one frame again", pile.count(0), 1);
        due("the last undo", pile.undo(), 0);
        due("no frame", pile.count(0), 0);
        due("empty again", pile.undo(), ILLEGAL);
        due("an object can still be used", pile.call(1, 1), 0);
    }
}
