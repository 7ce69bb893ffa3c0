import java.util.Arrays;

/**
 * A pile of few slots that guesses where calls return to, beside the stack of frames that knows it.
 */
public final class ReturnPile {
    public static final int INVALID_ARGUMENT = -1;
    public static final int ILLEGAL_STATE = -2;
    public static final int CAPACITY_EXCEEDED = -3;
    public static final int NONE = -9;

    private static final int MAX_FUNCTION = 15;
    private static final int MAX_ADDRESS = 999;
    private static final int MAX_FRAMES = 40;
    private static final int MAX_STEPS = 200;
    private static final int MIN_SIZE = 2;
    private static final int MAX_SIZE = 16;
    private static final int FIRST_SIZE = 8;
    private static final int MAX_CONFESSIONS = 12;
    private static final int MAX_HISTORY = 5;
    private static final int MAX_TEXT = 120;
    private static final int MAX_CHARACTER = 255;
    private static final int MAX_DIGITS = 3;
    private static final int FAILURE = -1000;

    // The kinds of steps; UNKNOWN is none of them.
    private static final int UNKNOWN = -1;
    private static final int CALL = 0;
    private static final int TAIL = 1;
    private static final int RETURN = 2;
    private static final int THROW = 3;
    private static final int KINDS = 4;

    // What a return answers, which is also its row among the outcomes.
    private static final int HIT = 0;
    private static final int LUCKY_HIT = 1;
    private static final int MISS_OVERRUN = 2;
    private static final int MISS_MISLED = 3;
    private static final int OUTCOMES = 4;

    // The rows of a table bear the numbers by which the document asks for its properties.
    private static final int FRAME_CALL = 0;
    private static final int FRAME_FUNCTION = 1;
    private static final int FRAME_ADDRESS = 2;
    private static final int FRAME_SLOT = 3;
    private static final int FRAME_OVERRUN_BY = 4;
    private static final int FRAME_ROWS = 5;

    private static final int SLOT_CALL = 0;
    private static final int SLOT_ADDRESS = 1;
    private static final int SLOT_WRITES = 2;
    private static final int SLOT_ROWS = 3;

    private static final int CONFESSED_KIND = 0;
    private static final int CONFESSED_CULPRIT = 1;
    private static final int CONFESSED_CALL = 2;
    private static final int CONFESSED_GUESS = 3;
    private static final int CONFESSED_ADDRESS = 4;
    private static final int CONFESSED_STEP = 5;
    private static final int CONFESSED_ROWS = 6;

    private static final int STEP_KIND = 0;
    private static final int STEP_FUNCTION = 1;
    private static final int STEP_NUMBER = 2;
    private static final int STEP_ROWS = 3;

    private final State now = new State();
    private final State before = new State();
    private final State trial = new State();
    private final State[] history = new State[MAX_HISTORY];
    private int historyLength;
    private final Text text = new Text();

    public ReturnPile() {
        for (int i = 0; i < MAX_HISTORY; i++) {
            history[i] = new State();
        }
    }

    // ---- steps

    public int call(int function, int address) {
        return takeAsAction(CALL, function, address);
    }

    public int tail(int function) {
        return takeAsAction(TAIL, function, 0);
    }

    public int ret() {
        return takeAsAction(RETURN, 0, 0);
    }

    public int raise(int frames) {
        return takeAsAction(THROW, 0, frames);
    }

    // ---- settings

    public int setRepair(int repair) {
        if (repair < 0 || repair > 1) {
            return INVALID_ARGUMENT;
        }
        record(now);
        int previous = now.repair;
        now.repair = repair;
        return previous;
    }

    public int begin(int size) {
        if (!isSize(size)) {
            return INVALID_ARGUMENT;
        }
        record(now);
        int previous = now.size;
        now.beginAnew(size);
        return previous;
    }

    public int undo() {
        if (historyLength == 0) {
            return ILLEGAL_STATE;
        }
        historyLength--;
        now.copyFrom(history[historyLength]);
        return historyLength;
    }

    // ---- texts

    public int append(int character) {
        if (character < 1 || character > MAX_CHARACTER) {
            return INVALID_ARGUMENT;
        }
        if (text.length == MAX_TEXT) {
            return CAPACITY_EXCEEDED;
        }
        text.add(character);
        return text.length;
    }

    public int clearText() {
        int previous = text.length;
        text.length = 0;
        return previous;
    }

    public int run() {
        before.copyFrom(now);
        int steps = takeStepsOfText();
        if (steps < 0) {
            now.copyFrom(before);
            return FAILURE - text.place;
        }
        record(before);
        text.length = 0;
        return steps;
    }

    // ---- looking

    public int count(int what) {
        switch (what) {
            case 0: return now.height;
            case 1: return now.stepCount;
            case 2: return now.stepsOf[CALL];
            case 3: return now.stepsOf[TAIL];
            case 4: return now.stepsOf[RETURN];
            case 5: return now.stepsOf[THROW];
            case 6: return now.outcomes[HIT] + now.outcomes[LUCKY_HIT];
            case 7: return now.outcomes[LUCKY_HIT];
            case 8: return now.outcomes[MISS_OVERRUN];
            case 9: return now.outcomes[MISS_MISLED];
            case 10: return now.confessionCount;
            case 11: return now.size;
            case 12: return now.top;
            case 13: return now.greatestHeight;
            case 14: return now.repair;
            case 15: return historyLength;
            case 16: return text.length;
            case 17: return now.overrunFrames();
            default: return INVALID_ARGUMENT;
        }
    }

    public int frame(int depth, int what) {
        if (depth < 0 || depth >= now.height || what < 0 || what >= FRAME_ROWS) {
            return INVALID_ARGUMENT;
        }
        return now.frames[what][now.height - 1 - depth];
    }

    public int slot(int slot, int what) {
        if (slot < 0 || slot >= now.size || what < 0 || what >= SLOT_ROWS) {
            return INVALID_ARGUMENT;
        }
        return now.slots[what][slot];
    }

    public int confession(int index, int what) {
        if (index < 0 || what < 0 || what >= CONFESSED_ROWS) {
            return INVALID_ARGUMENT;
        }
        if (index >= now.confessionCount) {
            return NONE;
        }
        return now.confessions[what][index];
    }

    public int named(int call) {
        if (call < 0 || call >= now.stepsOf[CALL]) {
            return INVALID_ARGUMENT;
        }
        return now.timesNamed[call];
    }

    public int worst() {
        int worst = NONE;
        int most = 0;
        for (int call = 0; call < now.stepsOf[CALL]; call++) {
            if (now.timesNamed[call] > most) {
                most = now.timesNamed[call];
                worst = call;
            }
        }
        return worst;
    }

    // ---- what could be, which changes nothing

    public int ahead(int returns, int what) {
        if (returns < 1 || returns > MAX_FRAMES || what < 0 || what > 1) {
            return INVALID_ARGUMENT;
        }
        if (returns > now.height) {
            return ILLEGAL_STATE;
        }
        int hits = now.hitsAhead(returns);
        return what == 0 ? hits : returns - hits;
    }

    public int missesWith(int size) {
        if (!isSize(size)) {
            return INVALID_ARGUMENT;
        }
        return missesInTrial(size);
    }

    public int bestSize() {
        int best = MIN_SIZE;
        int fewest = missesInTrial(MIN_SIZE);
        for (int size = MIN_SIZE + 1; size <= MAX_SIZE; size++) {
            int misses = missesInTrial(size);
            if (misses < fewest) {
                fewest = misses;
                best = size;
            }
        }
        return best;
    }

    public int callsUntil(int depth) {
        if (depth < 0 || depth >= now.height) {
            return INVALID_ARGUMENT;
        }
        int frame = now.height - 1 - depth;
        if (now.isOverrun(frame)) {
            return 0;
        }
        int distance = now.frames[FRAME_SLOT][frame] - now.top;
        // The top itself is the last slot that is reached, after a whole round.
        return distance > 0 ? distance : distance + now.size;
    }

    // ---- helpers

    private static boolean isSize(int size) {
        return size >= MIN_SIZE && size <= MAX_SIZE;
    }

    private int takeAsAction(int kind, int function, int number) {
        before.copyFrom(now);
        int answer = now.take(kind, function, number);
        if (answer >= 0) {
            record(before);
        }
        return answer;
    }

    private void record(State state) {
        if (historyLength == MAX_HISTORY) {
            dropOldest();
        }
        history[historyLength].copyFrom(state);
        historyLength++;
    }

    /** The dropped object goes behind the others, so that it is written into again. */
    private void dropOldest() {
        State oldest = history[0];
        for (int i = 1; i < MAX_HISTORY; i++) {
            history[i - 1] = history[i];
        }
        history[MAX_HISTORY - 1] = oldest;
        historyLength = MAX_HISTORY - 1;
    }

    /** Takes all steps so far once more, with a pile of another size. */
    private int missesInTrial(int size) {
        trial.repair = now.repair;
        trial.beginAnew(size);
        for (int i = 0; i < now.stepCount; i++) {
            trial.take(now.steps[STEP_KIND][i], now.steps[STEP_FUNCTION][i], now.steps[STEP_NUMBER][i]);
        }
        return trial.misses();
    }

    /** Answers the number of steps; -1 if the text fails, and then its place is that of the failure. */
    private int takeStepsOfText() {
        text.place = 0;
        // A step has one character at least, so the text ends within this many rounds.
        for (int steps = 0; steps <= MAX_TEXT; steps++) {
            text.skipSpaces();
            if (text.isAtEnd()) {
                return steps;
            }
            if (!takeStepOfText()) {
                return -1;
            }
        }
        return -1;
    }

    private boolean takeStepOfText() {
        int letterPlace = text.place;
        int kind = kindOf(text.sign());
        if (kind == UNKNOWN) {
            return false;
        }
        text.place++;
        int function = 0;
        int number = 0;
        if (kind == CALL || kind == TAIL) {
            function = text.readNumber();
        }
        if (function < 0 || kind == CALL && !text.readSign('@')) {
            return false;
        }
        if (kind == CALL || kind == THROW) {
            number = text.readNumber();
        }
        if (number < 0) {
            return false;
        }
        if (now.take(kind, function, number) < 0) {
            text.place = letterPlace;
            return false;
        }
        return true;
    }

    private static int kindOf(int sign) {
        switch (sign) {
            case 'c': return CALL;
            case 't': return TAIL;
            case 'r': return RETURN;
            case 'x': return THROW;
            default: return UNKNOWN;
        }
    }

    /** All that undo restores: stack, pile, steps, confessions and repair. */
    private static final class State {
        int repair;
        int size;
        int top;
        int height;
        int greatestHeight;
        int stepCount;
        int confessionCount;
        final int[] stepsOf = new int[KINDS];
        final int[] outcomes = new int[OUTCOMES];
        final int[] timesNamed = new int[MAX_STEPS];
        final int[][] frames = new int[FRAME_ROWS][MAX_FRAMES];
        final int[][] slots = new int[SLOT_ROWS][MAX_SIZE];
        final int[][] steps = new int[STEP_ROWS][MAX_STEPS];
        final int[][] confessions = new int[CONFESSED_ROWS][MAX_CONFESSIONS];

        State() {
            beginAnew(FIRST_SIZE);
        }

        /** What lies beyond the counts is never read, so it need not be wiped. */
        void beginAnew(int newSize) {
            size = newSize;
            top = newSize - 1;
            height = 0;
            greatestHeight = 0;
            stepCount = 0;
            confessionCount = 0;
            Arrays.fill(stepsOf, 0);
            Arrays.fill(outcomes, 0);
            Arrays.fill(timesNamed, 0);
            Arrays.fill(slots[SLOT_CALL], NONE);
            Arrays.fill(slots[SLOT_ADDRESS], NONE);
            Arrays.fill(slots[SLOT_WRITES], 0);
        }

        void copyFrom(State other) {
            repair = other.repair;
            size = other.size;
            top = other.top;
            height = other.height;
            greatestHeight = other.greatestHeight;
            stepCount = other.stepCount;
            confessionCount = other.confessionCount;
            System.arraycopy(other.stepsOf, 0, stepsOf, 0, KINDS);
            System.arraycopy(other.outcomes, 0, outcomes, 0, OUTCOMES);
            System.arraycopy(other.timesNamed, 0, timesNamed, 0, MAX_STEPS);
            copyRows(other.frames, frames, MAX_FRAMES);
            copyRows(other.slots, slots, MAX_SIZE);
            copyRows(other.steps, steps, MAX_STEPS);
            copyRows(other.confessions, confessions, MAX_CONFESSIONS);
        }

        private static void copyRows(int[][] from, int[][] to, int length) {
            for (int row = 0; row < to.length; row++) {
                System.arraycopy(from[row], 0, to[row], 0, length);
            }
        }

        /** Takes a step and answers what its method returns, or changes nothing if that is an error. */
        int take(int kind, int function, int number) {
            int error = errorOf(kind, function, number);
            if (error != 0) {
                return error;
            }
            int answer;
            switch (kind) {
                case CALL: answer = addFrame(function, number); break;
                case TAIL: answer = replaceFunction(function); break;
                case RETURN: answer = removeFrame(); break;
                default: answer = removeFrames(number); break;
            }
            remember(kind, function, number);
            return answer;
        }

        private void remember(int kind, int function, int number) {
            steps[STEP_KIND][stepCount] = kind;
            steps[STEP_FUNCTION][stepCount] = function;
            steps[STEP_NUMBER][stepCount] = number;
            stepCount++;
            stepsOf[kind]++;
        }

        private int errorOf(int kind, int function, int number) {
            if (function < 0 || function > MAX_FUNCTION || !isNumberFor(kind, number)) {
                return INVALID_ARGUMENT;
            }
            if (height < framesNeeded(kind, number)) {
                return ILLEGAL_STATE;
            }
            if (stepCount >= MAX_STEPS || kind == CALL && height >= MAX_FRAMES) {
                return CAPACITY_EXCEEDED;
            }
            return 0;
        }

        private static boolean isNumberFor(int kind, int number) {
            if (kind == CALL) {
                return number >= 0 && number <= MAX_ADDRESS;
            }
            return kind != THROW || number >= 1 && number <= MAX_FRAMES;
        }

        private static int framesNeeded(int kind, int number) {
            switch (kind) {
                case CALL: return 0;
                case THROW: return number;
                default: return 1;
            }
        }

        private int addFrame(int function, int address) {
            int number = stepsOf[CALL];
            top = top + 1 < size ? top + 1 : 0;
            overrunFramesOfTop(number);
            slots[SLOT_CALL][top] = number;
            slots[SLOT_ADDRESS][top] = address;
            slots[SLOT_WRITES][top]++;
            frames[FRAME_CALL][height] = number;
            frames[FRAME_FUNCTION][height] = function;
            frames[FRAME_ADDRESS][height] = address;
            frames[FRAME_SLOT][height] = top;
            frames[FRAME_OVERRUN_BY][height] = NONE;
            height++;
            greatestHeight = Math.max(greatestHeight, height);
            return number;
        }

        private void overrunFramesOfTop(int number) {
            for (int i = 0; i < height; i++) {
                if (frames[FRAME_SLOT][i] == top && !isOverrun(i)) {
                    frames[FRAME_OVERRUN_BY][i] = number;
                }
            }
        }

        private int replaceFunction(int function) {
            int previous = frames[FRAME_FUNCTION][height - 1];
            frames[FRAME_FUNCTION][height - 1] = function;
            return previous;
        }

        private int removeFrame() {
            int outcome = outcomeOf(height - 1, top);
            if (outcome == MISS_OVERRUN || outcome == MISS_MISLED) {
                confess(outcome);
            }
            outcomes[outcome]++;
            height--;
            top = slotBefore(top);
            return outcome;
        }

        private int removeFrames(int number) {
            height -= number;
            if (repair == 1) {
                for (int i = 0; i < number; i++) {
                    top = slotBefore(top);
                }
            }
            return height;
        }

        private int slotBefore(int slot) {
            return slot > 0 ? slot - 1 : size - 1;
        }

        /** An empty slot never hits: its address is NONE, which is the address of no frame. */
        private int outcomeOf(int frame, int guessSlot) {
            if (slots[SLOT_ADDRESS][guessSlot] == frames[FRAME_ADDRESS][frame]) {
                return slots[SLOT_CALL][guessSlot] == frames[FRAME_CALL][frame] ? HIT : LUCKY_HIT;
            }
            return isOverrun(frame) ? MISS_OVERRUN : MISS_MISLED;
        }

        /** Puts the confession of the return from the top frame ahead of the others. */
        private void confess(int outcome) {
            int frame = height - 1;
            boolean overrun = outcome == MISS_OVERRUN;
            int culprit = overrun ? frames[FRAME_OVERRUN_BY][frame] : slots[SLOT_CALL][top];
            for (int row = 0; row < CONFESSED_ROWS; row++) {
                System.arraycopy(confessions[row], 0, confessions[row], 1, MAX_CONFESSIONS - 1);
            }
            confessions[CONFESSED_KIND][0] = overrun ? 1 : 2;
            confessions[CONFESSED_CULPRIT][0] = culprit;
            confessions[CONFESSED_CALL][0] = frames[FRAME_CALL][frame];
            confessions[CONFESSED_GUESS][0] = slots[SLOT_ADDRESS][top];
            confessions[CONFESSED_ADDRESS][0] = frames[FRAME_ADDRESS][frame];
            confessions[CONFESSED_STEP][0] = stepCount;
            confessionCount = Math.min(confessionCount + 1, MAX_CONFESSIONS);
            if (culprit >= 0) {
                timesNamed[culprit]++;
            }
        }

        boolean isOverrun(int frame) {
            return frames[FRAME_OVERRUN_BY][frame] != NONE;
        }

        int overrunFrames() {
            int overrun = 0;
            for (int i = 0; i < height; i++) {
                if (isOverrun(i)) {
                    overrun++;
                }
            }
            return overrun;
        }

        int hitsAhead(int returns) {
            int hits = 0;
            int guessSlot = top;
            for (int i = 1; i <= returns; i++) {
                int outcome = outcomeOf(height - i, guessSlot);
                if (outcome == HIT || outcome == LUCKY_HIT) {
                    hits++;
                }
                guessSlot = slotBefore(guessSlot);
            }
            return hits;
        }

        int misses() {
            return outcomes[MISS_OVERRUN] + outcomes[MISS_MISLED];
        }
    }

    /** The characters of the text, and the place up to which they have been read. */
    private static final class Text {
        final int[] characters = new int[MAX_TEXT];
        int length;
        int place;

        void add(int character) {
            characters[length] = character;
            length++;
        }

        boolean isAtEnd() {
            return place >= length;
        }

        /** The character that stands at the place; 0, which no text has, at the end. */
        int sign() {
            return place < length ? characters[place] : 0;
        }

        void skipSpaces() {
            while (place < length && characters[place] == ' ') {
                place++;
            }
        }

        boolean readSign(int sign) {
            skipSpaces();
            if (sign() != sign) {
                return false;
            }
            place++;
            return true;
        }

        /** Answers -1, with the place of the failure, if no right number stands there. */
        int readNumber() {
            skipSpaces();
            int start = place;
            int value = 0;
            // One digit too many is enough to know that the number is wrong.
            while (place < length && place - start <= MAX_DIGITS && isDigit(characters[place])) {
                value = 10 * value + characters[place] - '0';
                place++;
            }
            int digits = place - start;
            boolean isRight = digits == 1
                    || digits > 1 && digits <= MAX_DIGITS && characters[start] != '0';
            if (!isRight) {
                place = start;
                return -1;
            }
            return value;
        }

        private static boolean isDigit(int character) {
            return character >= '0' && character <= '9';
        }
    }
}
