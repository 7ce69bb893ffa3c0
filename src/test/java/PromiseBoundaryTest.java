import java.util.function.Supplier;

/** The range of each argument, and each sentence of a promise that names a boundary. */
public final class PromiseBoundaryTest extends PileChecks {
    private PromiseBoundaryTest() {
    }

    public static void main(String[] args) {
        rangesOfSteps();
        rangesOfSettings();
        rangesOfLooks();
        rangesOfForecasts();
        answersOfNewObject();
        answersOfCall();
        answersOfTail();
        answersOfRet();
        answersOfRaise();
        answersOfSettings();
        countsThatGoDown();
        countsOfMisses();
        countOfOverrunFrames();
        framesByDepth();
        slotsOfEachSize();
        confessionsByIndex();
        confessionsOfBothKinds();
        stepsOfConfessions();
        namedByDroppedConfessions();
        namedCalls();
        namedMost();
        aheadOfFortyFrames();
        aheadIsMadeOneAfterTheOther();
        stepsDoNotMatterAhead();
        missesWithEachSize();
        missesWithRepairAsItIsNow();
        smallestOfTheBest();
        bestWithRepairAsItIsNow();
        callsUntilForEachSize();
        callsUntilAfterThrows();
        framesAndStepsDoNotMatterUntil();
        Dues.end();
    }

    // ---- ranges

    /** A call with one argument that is tried. */
    private interface Call {
        int make(ReturnPile pile, int value);
    }

    /** All values from the first to the last are taken; those beside them and far from them are not. */
    private static void range(String name, int first, int last, Supplier<ReturnPile> state, Call call) {
        for (int value = first; value <= last; value++) {
            int answer = call.make(state.get(), value);
            due(name + " of " + value + " is taken", answer >= 0 || answer == NONE ? 1 : 0, 1);
        }
        int[] outside = {
            first - 1, first - 256, first - 65536, Integer.MIN_VALUE, Integer.MIN_VALUE + first,
            last + 1, last + 256, last + 65536, Integer.MAX_VALUE, Integer.MAX_VALUE - last,
        };
        for (int value : outside) {
            due(name + " of " + value, call.make(state.get(), value), INVALID);
        }
    }

    private static ReturnPile fortyFrames() {
        return withCalls(8, 40);
    }

    private static void rangesOfSteps() {
        Dues.sentence("function: 0 to 15; address: 0 to 999, the return address; frames: 1 to 40");
        range("call's function", 0, 15, ReturnPile::new, (pile, value) -> pile.call(value, 0));
        range("call's address", 0, 999, ReturnPile::new, (pile, value) -> pile.call(15, value));
        range("tail's function", 0, 15, () -> withCalls(2, 1), (pile, value) -> pile.tail(value));
        range("raise's frames", 1, 40, PromiseBoundaryTest::fortyFrames, (pile, value) -> pile.raise(value));
    }

    private static void rangesOfSettings() {
        Dues.sentence("repair: 0 or 1; size: 2 to 16; character: character code, 1 to 255");
        range("setRepair's repair", 0, 1, ReturnPile::new, (pile, value) -> pile.setRepair(value));
        range("begin's size", 2, 16, ReturnPile::new, (pile, value) -> pile.begin(value));
        range("append's character", 1, 255, ReturnPile::new, (pile, value) -> pile.append(value));
    }

    private static void rangesOfLooks() {
        Dues.sentence("what: 0 to 17; to 4; to 2; to 5; depth: 0 for the top frame; slot: 0 to the size of the pile less 1");
        range("count's what", 0, 17, ReturnPile::new, (pile, value) -> pile.count(value));
        range("frame's depth", 0, 39, PromiseBoundaryTest::fortyFrames, (pile, value) -> pile.frame(value, 4));
        range("frame's depth of one", 0, 0, () -> withCalls(2, 1), (pile, value) -> pile.frame(value, 0));
        range("frame's what", 0, 4, PromiseBoundaryTest::fortyFrames, (pile, value) -> pile.frame(39, value));
        for (int size = 2; size <= 16; size++) {
            int slots = size;
            range("slot's slot of " + size, 0, size - 1, () -> sized(slots), (pile, value) -> pile.slot(value, 2));
        }
        range("slot's what", 0, 2, ReturnPile::new, (pile, value) -> pile.slot(7, value));
        range("confession's what", 0, 5, PromiseBoundaryTest::missed, (pile, value) -> pile.confession(0, value));
        range("confession's what without one", 0, 5, ReturnPile::new, (pile, value) -> pile.confession(0, value));
        range("named's call", 0, 39, PromiseBoundaryTest::fortyFrames, (pile, value) -> pile.named(value));
        range("named's call of one", 0, 0, () -> withCalls(2, 1), (pile, value) -> pile.named(value));
        due("no call to name", new ReturnPile().named(0), INVALID);
        due("no frame to look at", new ReturnPile().frame(0, 0), INVALID);
    }

    private static void rangesOfForecasts() {
        Dues.sentence("returns: 1 to 40; what: 0 how many hits, 1 how many misses; size: 2 to 16; depth: 0 for the top frame");
        range("ahead's returns", 1, 40, PromiseBoundaryTest::fortyFrames, (pile, value) -> pile.ahead(value, 0));
        range("ahead's what", 0, 1, () -> withCalls(2, 1), (pile, value) -> pile.ahead(1, value));
        range("missesWith's size", 2, 16, PromiseBoundaryTest::missed, (pile, value) -> pile.missesWith(value));
        range("callsUntil's depth", 0, 39, PromiseBoundaryTest::fortyFrames, (pile, value) -> pile.callsUntil(value));
        range("callsUntil's depth of one", 0, 0, () -> withCalls(2, 1), (pile, value) -> pile.callsUntil(value));
        due("no frame to be overrun", new ReturnPile().callsUntil(0), INVALID);
    }

    /** Two slots and three calls that returned, the last return a miss. */
    private static ReturnPile missed() {
        ReturnPile pile = withCalls(2, 3);
        returnTimes(pile, 3);
        return pile;
    }

    // ---- what steps and settings answer

    private static void answersOfNewObject() {
        Dues.sentence("Creates an empty stack and an empty pile of 8 slots, with an empty text.");
        ReturnPile pile = new ReturnPile();
        same("counts", countsOf(pile), "0 0 0 0 0 0 0 0 0 0 0 8 7 0 0 0 0 0 ");
        same("slots", slotsOf(pile), "top 7:" + " -9 -9 0".repeat(8));
        due("slot 8", pile.slot(8, 0), INVALID);
        due("frame", pile.frame(0, 0), INVALID);
        due("confession", pile.confession(0, 0), NONE);
        due("worst", pile.worst(), NONE);
        due("best size", pile.bestSize(), 2);
        due("undo", pile.undo(), ILLEGAL);
        due("an empty text is run", pile.run(), 0);
    }

    private static void answersOfCall() {
        Dues.sentence("CAPACITY_EXCEEDED if there are 40 frames or 200 steps.");
        ReturnPile frames = withCalls(8, 39);
        due("with 39 frames", frames.call(0, 0), 39);
        due("with 40 frames", frames.call(0, 0), FULL);
        frames.tail(0);
        due("with 40 frames and a tail call", frames.call(0, 0), FULL);
        ReturnPile steps = withCalls(8, 1);
        tailTimes(steps, 198);
        due("with 199 steps", steps.call(0, 0), 1);
        due("with 200 steps", steps.call(0, 0), FULL);
        steps.undo();
        due("with 199 steps again", steps.call(0, 0), 1);
        steps.begin(2);
        due("begun anew", steps.call(0, 0), 0);
    }

    private static void answersOfTail() {
        Dues.sentence("ILLEGAL_STATE if there is no frame; CAPACITY_EXCEEDED if there are 200 steps.");
        ReturnPile pile = new ReturnPile();
        due("no frame", pile.tail(0), ILLEGAL);
        pile.call(15, 0);
        due("one frame", pile.tail(0), 15);
        pile.raise(1);
        due("no frame again", pile.tail(0), ILLEGAL);
        pile.call(1, 0);
        tailTimes(pile, 195);
        due("with 199 steps", pile.tail(5), 194 % 16);
        due("with 200 steps", pile.tail(5), FULL);
    }

    private static void answersOfRet() {
        Dues.sentence("Returns 0 for a hit, 1 for a lucky hit, 2 for a miss with a confession of the kind 1, 3 for one of the kind 2");
        ReturnPile pile = sized(2);
        runText(pile, "c0@1 c0@2 c0@1 c0@3 c0@4 x1");
        due("kind 2", pile.ret(), 3);
        due("hit", pile.raise(1) + pile.call(0, 7) * 100 + pile.ret() * 1000, 502);
        due("kind 1", pile.ret(), 2);
        ReturnPile lucky = sized(2);
        runText(lucky, "c0@1 c0@2 c0@1 r r");
        due("lucky hit", lucky.ret(), 1);
        due("no frame", lucky.ret(), ILLEGAL);
    }

    private static void answersOfRaise() {
        Dues.sentence("Returns the number of frames that are left; ILLEGAL_STATE if there are fewer frames");
        for (int frames = 0; frames <= 40; frames++) {
            ReturnPile pile = withCalls(8, frames);
            if (frames < 40) {
                due("one more than " + frames, pile.raise(frames + 1), ILLEGAL);
                due("forty of " + frames, pile.raise(40), ILLEGAL);
            }
            if (frames > 0) {
                due("all of " + frames, pile.raise(frames), 0);
                pile.undo();
                due("one of " + frames, pile.raise(1), frames - 1);
            }
        }
    }

    private static void answersOfSettings() {
        Dues.sentence("Returns the previous value; Returns the previous size; Returns the number of states that are left");
        ReturnPile pile = new ReturnPile();
        due("repair at first", pile.setRepair(1), 0);
        due("repair then", pile.setRepair(1), 1);
        due("repair once more", pile.setRepair(0), 1);
        due("size at first", pile.begin(16), 8);
        due("size then", pile.begin(2), 16);
        due("the same size", pile.begin(2), 2);
        due("four states are left", pile.undo(), 4);
        due("three states are left", pile.undo(), 3);
        due("size is undone", pile.begin(2), 16);
        for (int left = 3; left >= 0; left--) {
            due("states", pile.undo(), left);
        }
        due("none", pile.undo(), ILLEGAL);
        due("repair that is left", pile.setRepair(0), 1);
    }

    // ---- looking

    private static void countsThatGoDown() {
        Dues.sentence("13 the greatest number of frames there were at once");
        ReturnPile pile = fortyFrames();
        pile.raise(40);
        due("after all are thrown", pile.count(13), 40);
        due("frames", pile.count(0), 0);
        pile.begin(8);
        due("begun anew", pile.count(13), 0);
        runText(pile, "c0@0 c0@0 c0@0 r r r");
        due("within a text", pile.count(13), 3);
        pile.call(0, 0);
        due("fewer frames since", pile.count(13), 3);
        pile.undo();
        pile.undo();
        due("undone", pile.count(13), 0);
        runText(pile, "c0@0 c0@0 #");
        due("a text that fails", pile.count(13), 0);
    }

    private static void countsOfMisses() {
        Dues.sentence("6 of hits (lucky ones too), 7 of lucky hits, 8 of misses of the kind 1, 9 of the kind 2, 10 of confessions that are kept");
        ReturnPile pile = sized(2);
        runText(pile, "c0@5 c0@5 c0@5 rrr");
        runText(pile, "c0@1 c0@2 c0@3 x1 rr");
        for (int i = 0; i < 14; i++) {
            runText(pile, "c0@1 c0@2 x1 r");
        }
        due("hits", pile.count(6), 3);
        due("lucky hits", pile.count(7), 1);
        due("misses of the kind 1", pile.count(8), 1);
        due("misses of the kind 2", pile.count(9), 15);
        due("confessions that are kept", pile.count(10), 12);
        due("calls", pile.count(2), 34);
        due("tail calls", pile.count(3), 0);
        due("returns", pile.count(4), 19);
        due("throws", pile.count(5), 15);
        due("steps", pile.count(1), 68);
    }

    private static void countOfOverrunFrames() {
        Dues.sentence("17 the number of frames that are overrun");
        ReturnPile pile = withCalls(2, 40);
        due("of forty", pile.count(17), 38);
        pile.ret();
        due("the top frame was not", pile.count(17), 38);
        pile.ret();
        due("nor was the next", pile.count(17), 38);
        pile.ret();
        due("the third one was", pile.count(17), 37);
        pile.raise(37);
        due("none is left", pile.count(17), 0);
        pile.undo();
        due("undone", pile.count(17), 37);
    }

    private static void framesByDepth() {
        Dues.sentence("depth: 0 for the top frame, 1 for the one below it, and so on");
        ReturnPile pile = withCalls(16, 40);
        for (int depth = 0; depth < 40; depth++) {
            int call = 39 - depth;
            due("call at depth " + depth, pile.frame(depth, 0), call);
            due("function at depth " + depth, pile.frame(depth, 1), call % 16);
            due("address at depth " + depth, pile.frame(depth, 2), 100 + call);
            due("slot at depth " + depth, pile.frame(depth, 3), call % 16);
            due("overrunning call at depth " + depth, pile.frame(depth, 4), call < 24 ? call + 16 : NONE);
        }
    }

    private static void slotsOfEachSize() {
        Dues.sentence("0 the number of the call of its entry, 1 the address of its entry (NONE if it is empty), 2 how often it was written");
        for (int size = 2; size <= 16; size++) {
            for (int times = 0; times <= 40; times += 4) {
                ReturnPile pile = withCalls(size, times);
                for (int slot = 0; slot < size; slot++) {
                    int writes = (times - slot + size - 1) / size;
                    int call = slot < times ? slot + (writes - 1) * size : NONE;
                    due("call in slot " + slot + " of " + size, pile.slot(slot, 0), call);
                    due("address in slot " + slot + " of " + size, pile.slot(slot, 1), call == NONE ? NONE : 100 + call);
                    due("writes of slot " + slot + " of " + size, pile.slot(slot, 2), slot < times ? writes : 0);
                }
            }
        }
    }

    private static void confessionsByIndex() {
        Dues.sentence("index: 0 for the latest one; INVALID_ARGUMENT if index is negative or what is out of range; NONE if not so many are kept.");
        ReturnPile pile = new ReturnPile();
        due("without one", pile.confession(0, 0), NONE);
        due("negative", pile.confession(-1, 0), INVALID);
        due("most negative", pile.confession(Integer.MIN_VALUE, 5), INVALID);
        ReturnPile twelve = withCalls(2, 14);
        returnTimes(twelve, 14);
        for (int index = 0; index < 12; index++) {
            due("call of confession " + index, twelve.confession(index, 2), index);
            due("culprit of confession " + index, twelve.confession(index, 1), index + 2);
        }
        for (int what = 0; what < 6; what++) {
            due("index 12", twelve.confession(12, what), NONE);
            due("the greatest index", twelve.confession(Integer.MAX_VALUE, what), NONE);
            due("index -1", twelve.confession(-1, what), INVALID);
        }
    }

    /** Fourteen confessions, in turn of the kinds 1 and 2, each with numbers of its own. */
    private static void confessionsOfBothKinds() {
        Dues.sentence("0 its kind, 1 its culprit, 2 the call of the frame that returned, 3 the address that was guessed, 4 the return address");
        ReturnPile pile = sized(2);
        int[][] told = new int[14][];
        for (int i = 0; i < 14; i++) {
            int kind = i % 2 + 1;
            int call = pile.call(0, 10 * i);
            int next = pile.call(0, 10 * i + 1);
            if (kind == 1) {
                next = pile.call(0, 10 * i + 2);
                returnTimes(pile, 2);
            } else {
                pile.raise(1);
            }
            told[i] = new int[] {kind, next, call, 10 * i + 3 - kind, 10 * i, pile.count(1)};
            due("return " + i, pile.ret(), kind + 1);
        }
        due("kept", pile.count(10), 12);
        for (int index = 0; index < 12; index++) {
            for (int what = 0; what < 6; what++) {
                due("confession " + index + ", " + what, pile.confession(index, what), told[13 - index][what]);
            }
        }
    }

    private static void stepsOfConfessions() {
        Dues.sentence("5 the step of the return, from 0");
        ReturnPile early = sized(2);
        runText(early, "c0@1 c0@2 x1 r");
        due("the fourth step", early.confession(0, 5), 3);
        early.setRepair(1);
        early.begin(2);
        early.setRepair(0);
        runText(early, "c0@1 c0@2 x1 r");
        due("begun anew", early.confession(0, 5), 3);
        ReturnPile late = withCalls(2, 3);
        tailTimes(late, 194);
        returnTimes(late, 3);
        due("the last step of all", late.confession(0, 5), 199);
        due("its call", late.confession(0, 2), 0);
    }

    private static void namedByDroppedConfessions() {
        Dues.sentence("how many confessions so far have named a call (also those that are not kept any more).");
        ReturnPile pile = withCalls(2, 40);
        returnTimes(pile, 40);
        due("kept", pile.count(10), 12);
        for (int call = 0; call < 40; call++) {
            due("call " + call, pile.named(call), call < 2 ? 0 : 1);
        }
        pile.begin(2);
        due("begun anew", pile.named(2), INVALID);
        callTimes(pile, 3);
        due("not named anew", pile.named(2), 0);
        pile.undo();
        pile.undo();
        pile.undo();
        pile.undo();
        due("undone", pile.named(2), 1);
    }

    private static void namedCalls() {
        Dues.sentence("INVALID_ARGUMENT if there was no such call.");
        ReturnPile pile = new ReturnPile();
        due("no call", pile.named(0), INVALID);
        pile.call(0, 0);
        due("the first", pile.named(0), 0);
        due("not yet", pile.named(1), INVALID);
        pile.ret();
        due("one that has returned", pile.named(0), 0);
        pile.undo();
        pile.undo();
        due("one that is undone", pile.named(0), INVALID);
        for (int i = 0; i < 200; i++) {
            pile.call(0, 0);
            pile.raise(1);
        }
        due("the last of a hundred", pile.named(99), 0);
        due("the next", pile.named(100), INVALID);
        due("call 199", pile.named(199), INVALID);
        due("call 200", pile.named(200), INVALID);
        ReturnPile most = sized(2);
        for (int i = 0; i < 4; i++) {
            callTimes(most, 40);
            most.raise(40);
        }
        callTimes(most, 36);
        due("steps", most.count(1), 200);
        due("as many calls as there can be", most.count(2), 196);
        due("the last one", most.named(195), 0);
        due("none behind it", most.named(196), INVALID);
        most.undo();
        most.ret();
        due("the last one is undone", most.named(195), INVALID);
    }

    private static void namedMost() {
        Dues.sentence("Finds the call that was named most, of several the one with the smallest number; NONE if none was named.");
        due("no call", new ReturnPile().worst(), NONE);
        ReturnPile pile = sized(2);
        runText(pile, "c0@1 r");
        due("none named", pile.worst(), NONE);
        runText(pile, "c0@2 c0@3 x1 r");
        due("one named once", pile.worst(), 2);
        runText(pile, "c0@4 c0@5 x1 r");
        due("two named once", pile.worst(), 2);
        due("the other one", pile.named(4), 1);
        runText(pile, "c0@6 c0@7 c0@8 x1 r r");
        due("named twice", pile.worst(), 7);
        runText(pile, "c0@6 c0@7 c0@8 x1 r r");
        due("two named twice", pile.worst(), 7);
        due("the later one", pile.named(10), 2);
        pile.undo();
        pile.undo();
        due("undone", pile.worst(), 2);
        pile.begin(2);
        due("begun anew", pile.worst(), NONE);
    }

    // ---- what could be

    private static void aheadOfFortyFrames() {
        Dues.sentence("Tells what returns would give; ILLEGAL_STATE if there are fewer frames");
        for (int size = 2; size <= 16; size++) {
            ReturnPile pile = withCalls(size, 40);
            for (int returns = 1; returns <= 40; returns++) {
                due("hits of " + returns, pile.ahead(returns, 0), Math.min(returns, size));
                due("misses of " + returns, pile.ahead(returns, 1), Math.max(0, returns - size));
            }
            pile.ret();
            due("with one frame fewer", pile.ahead(40, 0), ILLEGAL);
            due("all frames", pile.ahead(39, 0), size - 1);
        }
        ReturnPile none = new ReturnPile();
        due("without frames", none.ahead(1, 0), ILLEGAL);
        due("too many", none.ahead(41, 0), INVALID);
    }

    private static void aheadIsMadeOneAfterTheOther() {
        Dues.sentence("made one after the other from now on. 0 how many hits (lucky ones too), 1 how many misses");
        for (int size = 2; size <= 5; size++) {
            ReturnPile pile = sized(size);
            runText(pile, "c0@1 c0@2 c0@1 c0@2 c0@1 c0@3 c0@1 x1 c0@2 c0@2 x1");
            int frames = pile.count(0);
            int hits = 0;
            int[] due = new int[frames + 1];
            int[] ahead = new int[frames + 1];
            for (int returns = 1; returns <= frames; returns++) {
                ahead[returns] = pile.ahead(returns, 0);
            }
            for (int returns = 1; returns <= frames; returns++) {
                hits += pile.ret() < 2 ? 1 : 0;
                due[returns] = hits;
                due("size " + size + " and " + returns + " returns", ahead[returns], due[returns]);
            }
        }
    }

    private static void stepsDoNotMatterAhead() {
        Dues.sentence("(the number of steps does not matter).");
        ReturnPile pile = withCalls(2, 40);
        tailTimes(pile, 160);
        due("no room for a return", pile.ret(), FULL);
        due("forty hits", pile.ahead(40, 0), 2);
        due("forty misses", pile.ahead(40, 1), 38);
        due("one", pile.ahead(1, 0), 1);
        due("steps", pile.count(1), 200);
        due("returns", pile.count(4), 0);
    }

    private static void missesWithEachSize() {
        Dues.sentence("how many misses there would have been with another size of the pile, by all steps so far");
        for (int own = 2; own <= 16; own += 7) {
            ReturnPile pile = withCalls(own, 40);
            for (int size = 2; size <= 16; size++) {
                due("no return yet", pile.missesWith(size), 0);
            }
            returnTimes(pile, 40);
            for (int size = 2; size <= 16; size++) {
                due("misses with " + size, pile.missesWith(size), 40 - size);
            }
            due("its own size as it was", pile.missesWith(own), pile.count(8));
            due("size 1", pile.missesWith(1), INVALID);
            due("size 17", pile.missesWith(17), INVALID);
        }
        ReturnPile both = sized(3);
        runText(both, "c0@1 c0@2 c0@3 c0@4 x1 r r");
        due("misses of the kind 2 too", both.missesWith(16), 2);
    }

    private static void missesWithRepairAsItIsNow() {
        Dues.sentence("with repair as it is now.");
        ReturnPile pile = new ReturnPile();
        runText(pile, "c0@1 c0@2 x1 r");
        due("off", pile.missesWith(8), 1);
        pile.setRepair(1);
        due("on though it was off", pile.missesWith(8), 0);
        runText(pile, "c0@1 c0@2 x1 r");
        pile.setRepair(0);
        due("off though it was on", pile.missesWith(8), 2);
        pile.undo();
        due("on again by undo", pile.missesWith(8), 0);
        due("what was stays", pile.count(9), 1);
        ReturnPile far = withCalls(2, 40);
        far.setRepair(1);
        far.raise(39);
        far.setRepair(0);
        due("far back without repair", far.ret(), 2);
        due("a miss then", far.missesWith(16), 1);
        far.setRepair(1);
        due("a miss with repair", far.missesWith(16), 1);
    }

    private static void smallestOfTheBest() {
        Dues.sentence("Finds the smallest size of the pile, 2 to 16, with which there would have been the fewest misses");
        for (int deep = 0; deep <= 40; deep++) {
            ReturnPile pile = withCalls(2, deep);
            due("without returns", pile.bestSize(), 2);
            returnTimes(pile, deep);
            due("best of " + deep, pile.bestSize(), Math.max(2, Math.min(16, deep)));
        }
        ReturnPile same = sized(16);
        runText(same, "c0@5c0@5c0@5c0@5c0@5c0@5c0@5rrrrrrr");
        due("lucky hits are no misses", same.bestSize(), 2);
        ReturnPile between = sized(16);
        runText(between, "c0@1 c0@2 x1 c0@9 c0@9 c0@1 rrrr c0@1 c0@2 x1 r");
        due("with two slots", between.missesWith(2), 3);
        due("with three slots", between.missesWith(3), 1);
        due("with four slots", between.missesWith(4), 2);
        due("with sixteen slots", between.missesWith(16), 2);
        due("the fewest though not none, between smaller and greater sizes", between.bestSize(), 3);
    }

    private static void bestWithRepairAsItIsNow() {
        Dues.sentence("by all steps so far, with repair as it is now. (bestSize)");
        ReturnPile pile = new ReturnPile();
        runText(pile, "c0@1 c0@2 c0@3 x1 rr");
        due("off", pile.bestSize(), 2);
        pile.setRepair(1);
        due("on", pile.bestSize(), 3);
        pile.undo();
        due("off by undo", pile.bestSize(), 2);
    }

    private static void callsUntilForEachSize() {
        Dues.sentence("Returns the number of the call that overruns it, from 1 (0 if it is overrun now)");
        for (int size = 2; size <= 16; size++) {
            for (int times = 1; times <= 40; times += 3) {
                ReturnPile pile = withCalls(size, times);
                for (int depth = 0; depth < times; depth++) {
                    due("size " + size + ", depth " + depth, pile.callsUntil(depth), Math.max(0, size - depth));
                }
                due("no such frame", pile.callsUntil(times), INVALID);
            }
        }
    }

    /** The forecast is compared with calls that are really made. */
    private static void callsUntilAfterThrows() {
        Dues.sentence("how many calls can be made one after the other from now on until the frame at a depth is overrun.");
        for (int size = 2; size <= 16; size++) {
            for (int thrown = 0; thrown <= 12; thrown++) {
                for (int repair = 0; repair <= 1; repair++) {
                    ReturnPile pile = withCalls(size, 13);
                    pile.setRepair(repair);
                    if (thrown > 0) {
                        pile.raise(thrown);
                    }
                    int told = pile.callsUntil(0);
                    int calls = 0;
                    while (pile.frame(calls, 4) == NONE && calls < 20) {
                        pile.call(0, 0);
                        calls++;
                    }
                    due("size " + size + ", throw of " + thrown + ", repair " + repair, told, calls);
                }
            }
        }
        ReturnPile on = new ReturnPile();
        runText(on, "c0@1 c0@2 x1");
        due("the top is beyond the frame", on.callsUntil(0), 7);
        on.ret();
        on.call(0, 3);
        due("the top is the slot of the frame", on.callsUntil(0), 8);
    }

    private static void framesAndStepsDoNotMatterUntil() {
        Dues.sentence("INVALID_ARGUMENT if there is no such frame (the numbers of frames and steps do not matter).");
        ReturnPile pile = withCalls(16, 40);
        due("no room for a frame", pile.call(0, 0), FULL);
        due("the top frame", pile.callsUntil(0), 16);
        due("the last one that is not overrun", pile.callsUntil(15), 1);
        due("the next", pile.callsUntil(16), 0);
        due("the last", pile.callsUntil(39), 0);
        due("no such frame", pile.callsUntil(40), INVALID);
        tailTimes(pile, 160);
        due("no room for a step", pile.tail(0), FULL);
        due("the top frame with 200 steps", pile.callsUntil(0), 16);
        due("the last one that is not overrun with 200 steps", pile.callsUntil(15), 1);
        due("frames", pile.count(0), 40);
        due("steps", pile.count(1), 200);
    }
}
