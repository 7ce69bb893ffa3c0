import java.util.ArrayList;
import java.util.List;

/**
 * A second, slow reading of the document to compare with. It keeps nothing but the list of steps and
 * works out every answer anew from that list, so that it shares no bookkeeping with the program.
 */
final class Model {
    static final int INVALID = -1;
    static final int ILLEGAL = -2;
    static final int FULL = -3;
    static final int NONE = -9;

    /** A step with the repair that held when it was made. */
    private record Step(char letter, int function, int number, int repair) { }

    /** All that undo restores. */
    private record Saved(List<Step> steps, int size, int repair) { }

    private record Frame(int call, int function, int address, int writeIndex) { }

    private record Write(int call, int address, int slot) { }

    private record Confession(int kind, int culprit, int call, int guess, int address, int step) { }

    /** What has come of the steps with a pile of some size. */
    private static final class Outcome {
        final int size;
        int top;
        int greatest;
        final List<Frame> frames = new ArrayList<>();
        final List<Write> writes = new ArrayList<>();
        final List<Integer> returns = new ArrayList<>();
        final List<Confession> confessions = new ArrayList<>();
        int answer;

        Outcome(int size) {
            this.size = size;
            this.top = size - 1;
        }

        Write entry(int slot) {
            for (int i = writes.size() - 1; i >= 0; i--) {
                if (writes.get(i).slot() == slot) {
                    return writes.get(i);
                }
            }
            return null;
        }

        int overrunBy(Frame frame) {
            int slot = writes.get(frame.writeIndex()).slot();
            for (int i = frame.writeIndex() + 1; i < writes.size(); i++) {
                if (writes.get(i).slot() == slot) {
                    return writes.get(i).call();
                }
            }
            return NONE;
        }

        Frame last() {
            return frames.get(frames.size() - 1);
        }

        void apply(Step step, int index, int repair) {
            switch (step.letter()) {
                case 'c' -> {
                    top = Math.floorMod(top + 1, size);
                    answer = writes.size();
                    frames.add(new Frame(answer, step.function(), step.number(), writes.size()));
                    writes.add(new Write(answer, step.number(), top));
                    greatest = Math.max(greatest, frames.size());
                }
                case 't' -> {
                    Frame old = frames.remove(frames.size() - 1);
                    frames.add(new Frame(old.call(), step.function(), old.address(), old.writeIndex()));
                    answer = old.function();
                }
                case 'r' -> {
                    answer = guess(index);
                    returns.add(answer);
                    frames.remove(frames.size() - 1);
                    top = Math.floorMod(top - 1, size);
                }
                default -> {
                    for (int i = 0; i < step.number(); i++) {
                        frames.remove(frames.size() - 1);
                    }
                    if (repair == 1) {
                        top = Math.floorMod(top - step.number(), size);
                    }
                    answer = frames.size();
                }
            }
        }

        private int guess(int index) {
            Frame frame = last();
            Write entry = entry(top);
            if (entry != null && entry.address() == frame.address()) {
                return entry.call() == frame.call() ? 0 : 1;
            }
            int by = overrunBy(frame);
            int kind = by != NONE ? 1 : 2;
            int culprit = by != NONE ? by : entry == null ? NONE : entry.call();
            confessions.add(new Confession(kind, culprit, frame.call(),
                    entry == null ? NONE : entry.address(), frame.address(), index));
            return kind + 1;
        }

        int returnsThatGave(int answer) {
            int number = 0;
            for (int given : returns) {
                number += given == answer ? 1 : 0;
            }
            return number;
        }
    }

    private List<Step> steps = new ArrayList<>();
    private int size = 8;
    private int repair = 0;
    private final List<Saved> history = new ArrayList<>();
    private String text = "";

    private Outcome outcome(List<Step> steps, int size, int repair) {
        Outcome outcome = new Outcome(size);
        for (int i = 0; i < steps.size(); i++) {
            outcome.apply(steps.get(i), i, repair == NONE ? steps.get(i).repair() : repair);
        }
        return outcome;
    }

    private Outcome now() {
        return outcome(steps, size, NONE);
    }

    private Saved saved() {
        return new Saved(new ArrayList<>(steps), size, repair);
    }

    private void record(Saved saved) {
        history.add(saved);
        if (history.size() > 5) {
            history.remove(0);
        }
    }

    private int take(char letter, int function, int number) {
        int height = now().frames.size();
        boolean full = steps.size() >= 200;
        boolean invalid = function < 0 || function > 15
                || letter == 'c' && (number < 0 || number > 999)
                || letter == 'x' && (number < 1 || number > 40);
        boolean illegal = (letter == 't' || letter == 'r') && height == 0 || letter == 'x' && height < number;
        if (invalid) {
            return INVALID;
        }
        if (illegal) {
            return ILLEGAL;
        }
        if (full || letter == 'c' && height >= 40) {
            return FULL;
        }
        steps.add(new Step(letter, function, number, repair));
        return now().answer;
    }

    private int action(char letter, int function, int number) {
        Saved saved = saved();
        int answer = take(letter, function, number);
        if (answer >= 0) {
            record(saved);
        }
        return answer;
    }

    int call(int function, int address) {
        return action('c', function, address);
    }

    int tail(int function) {
        return action('t', function, 0);
    }

    int ret() {
        return action('r', 0, 0);
    }

    int raise(int frames) {
        return action('x', 0, frames);
    }

    int setRepair(int value) {
        if (value != 0 && value != 1) {
            return INVALID;
        }
        record(saved());
        int previous = repair;
        repair = value;
        return previous;
    }

    int begin(int value) {
        if (value < 2 || value > 16) {
            return INVALID;
        }
        record(saved());
        int previous = size;
        size = value;
        steps = new ArrayList<>();
        return previous;
    }

    int undo() {
        if (history.isEmpty()) {
            return ILLEGAL;
        }
        restore(history.remove(history.size() - 1));
        return history.size();
    }

    private void restore(Saved saved) {
        steps = new ArrayList<>(saved.steps());
        size = saved.size();
        repair = saved.repair();
    }

    int append(int character) {
        if (character < 1 || character > 255) {
            return INVALID;
        }
        if (text.length() >= 120) {
            return FULL;
        }
        text += (char) character;
        return text.length();
    }

    int clearText() {
        int previous = text.length();
        text = "";
        return previous;
    }

    int run() {
        Saved saved = saved();
        int done = 0;
        int place = afterSpaces(0);
        while (place < text.length()) {
            int letter = place;
            String form = switch (text.charAt(place)) {
                case 'c' -> "n@n";
                case 't' -> "n";
                case 'r' -> "";
                case 'x' -> "n";
                default -> null;
            };
            if (form == null) {
                restore(saved);
                return -1000 - place;
            }
            place = afterSpaces(place + 1);
            List<Integer> numbers = new ArrayList<>();
            for (char part : form.toCharArray()) {
                int end = place;
                while (end < text.length() && "0123456789".indexOf(text.charAt(end)) >= 0) {
                    end++;
                }
                String digits = text.substring(place, end);
                boolean right = part == '@' ? text.startsWith("@", place) : digits.matches("0|[1-9][0-9]{0,2}");
                if (!right) {
                    restore(saved);
                    return -1000 - place;
                }
                if (part == 'n') {
                    numbers.add(Integer.parseInt(digits));
                }
                place = afterSpaces(part == '@' ? place + 1 : end);
            }
            int answer = switch (text.charAt(letter)) {
                case 'c' -> take('c', numbers.get(0), numbers.get(1));
                case 't' -> take('t', numbers.get(0), 0);
                case 'r' -> take('r', 0, 0);
                default -> take('x', 0, numbers.get(0));
            };
            if (answer < 0) {
                restore(saved);
                return -1000 - letter;
            }
            done++;
        }
        record(saved);
        text = "";
        return done;
    }

    private int afterSpaces(int place) {
        int after = place;
        while (after < text.length() && text.charAt(after) == ' ') {
            after++;
        }
        return after;
    }

    private int stepsWith(char letter) {
        int number = 0;
        for (Step step : steps) {
            number += step.letter() == letter ? 1 : 0;
        }
        return number;
    }

    int count(int what) {
        Outcome now = now();
        int overrun = 0;
        for (Frame frame : now.frames) {
            overrun += now.overrunBy(frame) != NONE ? 1 : 0;
        }
        int[] counts = {
            now.frames.size(), steps.size(), stepsWith('c'), stepsWith('t'), stepsWith('r'), stepsWith('x'),
            now.returnsThatGave(0) + now.returnsThatGave(1), now.returnsThatGave(1),
            now.returnsThatGave(2), now.returnsThatGave(3), Math.min(12, now.confessions.size()),
            size, now.top, now.greatest, repair, history.size(), text.length(), overrun,
        };
        return what < 0 || what >= counts.length ? INVALID : counts[what];
    }

    int frame(int depth, int what) {
        Outcome now = now();
        if (depth < 0 || depth >= now.frames.size() || what < 0 || what > 4) {
            return INVALID;
        }
        Frame frame = now.frames.get(now.frames.size() - 1 - depth);
        return switch (what) {
            case 0 -> frame.call();
            case 1 -> frame.function();
            case 2 -> frame.address();
            case 3 -> now.writes.get(frame.writeIndex()).slot();
            default -> now.overrunBy(frame);
        };
    }

    int slot(int slot, int what) {
        if (slot < 0 || slot >= size || what < 0 || what > 2) {
            return INVALID;
        }
        Outcome now = now();
        if (what == 2) {
            int times = 0;
            for (Write write : now.writes) {
                times += write.slot() == slot ? 1 : 0;
            }
            return times;
        }
        Write entry = now.entry(slot);
        return entry == null ? NONE : what == 0 ? entry.call() : entry.address();
    }

    int confession(int index, int what) {
        if (index < 0 || what < 0 || what > 5) {
            return INVALID;
        }
        List<Confession> all = now().confessions;
        if (index >= 12 || index >= all.size()) {
            return NONE;
        }
        Confession one = all.get(all.size() - 1 - index);
        return switch (what) {
            case 0 -> one.kind();
            case 1 -> one.culprit();
            case 2 -> one.call();
            case 3 -> one.guess();
            case 4 -> one.address();
            default -> one.step();
        };
    }

    int named(int call) {
        if (call < 0 || call >= stepsWith('c')) {
            return INVALID;
        }
        int times = 0;
        for (Confession one : now().confessions) {
            times += one.culprit() == call ? 1 : 0;
        }
        return times;
    }

    int worst() {
        int worst = NONE;
        for (int call = stepsWith('c') - 1; call >= 0; call--) {
            if (named(call) > 0 && (worst == NONE || named(call) >= named(worst))) {
                worst = call;
            }
        }
        return worst;
    }

    int ahead(int returns, int what) {
        if (returns < 1 || returns > 40 || what < 0 || what > 1) {
            return INVALID;
        }
        Outcome now = now();
        if (now.frames.size() < returns) {
            return ILLEGAL;
        }
        int hits = 0;
        for (int i = 0; i < returns; i++) {
            now.apply(new Step('r', 0, 0, repair), steps.size() + i, repair);
            hits += now.answer < 2 ? 1 : 0;
        }
        return what == 0 ? hits : returns - hits;
    }

    int missesWith(int other) {
        return other < 2 || other > 16 ? INVALID : outcome(steps, other, repair).confessions.size();
    }

    int bestSize() {
        int best = 16;
        for (int other = 16; other >= 2; other--) {
            best = missesWith(other) <= missesWith(best) ? other : best;
        }
        return best;
    }

    int callsUntil(int depth) {
        Outcome now = now();
        if (depth < 0 || depth >= now.frames.size()) {
            return INVALID;
        }
        Frame frame = now.frames.get(now.frames.size() - 1 - depth);
        int calls = 0;
        while (now.overrunBy(frame) == NONE) {
            now.apply(new Step('c', 0, 0, repair), steps.size() + calls, repair);
            calls++;
        }
        return calls;
    }
}
