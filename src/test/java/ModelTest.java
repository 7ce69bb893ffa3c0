/** Long runs of mixed calls, each answer compared with that of the slow model. */
public final class ModelTest {
    private static final int RUNS = 1500;
    // What an object answers later is free.
    private static final int CALLS = 512;
    private static final String SIGNS = "cccctttrrrrrxx@@@@00112345679     s\t";

    private static long state = 20240607L;

    private ReturnPile pile = new ReturnPile();
    private Model model = new Model();
    private final int manner;
    private int callsLeft = CALLS;

    private ModelTest(int manner) {
        this.manner = manner;
    }

    /** A number from 0 to bound - 1, always the same row of them. */
    private static int pick(int bound) {
        state = state * 6364136223846793005L + 1442695040888963407L;
        return (int) ((state >>> 33) % bound);
    }

    /** Mostly a number of the range, now and then one beside it or far from it. */
    private static int around(int from, int to) {
        switch (pick(24)) {
            case 0: return from - 1;
            case 1: return to + 1;
            case 2: return pick(2) == 0 ? Integer.MIN_VALUE : Integer.MAX_VALUE;
            default: return from + pick(to - from + 1);
        }
    }

    private int address() {
        return pick(30) == 0 ? around(0, 999) : pick(manner % 3 == 0 ? 3 : 900);
    }

    public static void main(String[] args) {
        for (int run = 0; run < RUNS && Dues.wrong() < 20; run++) {
            ModelTest test = new ModelTest(run);
            while (test.callsLeft > 0) {
                test.callsLeft -= pick(5) < 3 ? test.change("run " + run) : test.look("run " + run);
            }
        }
        Dues.end();
    }

    /** Makes one call, or those of a text, and tells how many it made. */
    private int change(String run) {
        int upward = 3 + manner % 8;
        int choice = pick(20 + upward);
        int function = around(0, 15);
        int address = address();
        int few = pick(8) == 0 ? around(1, 40) : 1 + pick(3);
        int repair = around(0, 1);
        int size = around(2, 16);
        switch (choice) {
            case 0: Dues.due(run + " tail " + function, pile.tail(function), model.tail(function)); return 1;
            case 1: Dues.due(run + " raise " + few, pile.raise(few), model.raise(few)); return 1;
            case 2: Dues.due(run + " setRepair " + repair, pile.setRepair(repair), model.setRepair(repair)); return 1;
            case 3: return pick(6) == 0 ? begin(run, size) : 0;
            case 4: return pick(3) == 0 ? undo(run) : 0;
            case 5: return pick(4) == 0 ? text(run, pick(30), false) : 0;
            case 6: return pick(4) == 0 ? text(run, pick(130), true) : 0;
            case 7: case 8: case 9: case 10: case 11: case 12: case 13:
                Dues.due(run + " ret", pile.ret(), model.ret());
                return 1;
            default:
                Dues.due(run + " call " + function + " " + address,
                        pile.call(function, address), model.call(function, address));
                return 1;
        }
    }

    private int begin(String run, int size) {
        Dues.due(run + " begin " + size, pile.begin(size), model.begin(size));
        return 1;
    }

    /** Takes back some actions at once, now and then with the beginning of what is there. */
    private int undo(String run) {
        int times = Math.min(callsLeft, 1 + pick(5));
        for (int i = 0; i < times; i++) {
            Dues.due(run + " undo", pile.undo(), model.undo());
        }
        return times;
    }

    /** Puts a text together, of steps or of any signs, and runs it, if so many calls are left. */
    private int text(String run, int length, boolean ofSteps) {
        StringBuilder text = new StringBuilder();
        while (text.length() < length) {
            if (ofSteps) {
                text.append(step());
            } else {
                text.append(SIGNS.charAt(pick(SIGNS.length())));
            }
        }
        if (text.length() + 2 > callsLeft) {
            return 0;
        }
        for (int i = 0; i < text.length(); i++) {
            Dues.due(run + " append", pile.append(text.charAt(i)), model.append(text.charAt(i)));
        }
        Dues.due(run + " run \"" + text + "\"", pile.run(), model.run());
        if (pick(4) != 0) {
            Dues.due(run + " clearText", pile.clearText(), model.clearText());
        }
        return text.length() + 2;
    }

    private String step() {
        switch (pick(60)) {
            case 0: return "t" + pick(20);
            case 1: return " x" + pick(5);
            case 2: return " x " + pick(5) + " ";
            case 3: return "c " + pick(16) + " @ " + pick(1100);
            default: return pick(9) < 3 ? "r" : "c" + pick(9) + "@" + pick(9);
        }
    }

    private int look(String run) {
        int what = around(0, 17);
        int number = around(0, 15);
        int property = around(0, 5);
        int size = around(2, 16);
        int returns = pick(3) == 0 ? around(1, 40) : 1 + pick(6);
        int character = pick(9) == 0 ? around(1, 255) : 0;
        String told = " " + number + " " + property;
        switch (pick(13)) {
            case 0: Dues.due(run + " frame" + told, pile.frame(number, property), model.frame(number, property)); break;
            case 1: Dues.due(run + " slot" + told, pile.slot(number, property), model.slot(number, property)); break;
            case 2: case 3:
                Dues.due(run + " confession" + told, pile.confession(number, property), model.confession(number, property));
                break;
            case 4: Dues.due(run + " named " + number, pile.named(number), model.named(number)); break;
            case 5: Dues.due(run + " worst", pile.worst(), model.worst()); break;
            case 6:
                Dues.due(run + " ahead " + returns + " " + number % 3,
                        pile.ahead(returns, number % 3), model.ahead(returns, number % 3));
                break;
            case 7: Dues.due(run + " missesWith " + size, pile.missesWith(size), model.missesWith(size)); break;
            case 8: Dues.due(run + " bestSize", pile.bestSize(), model.bestSize()); break;
            case 9: Dues.due(run + " callsUntil " + number, pile.callsUntil(number), model.callsUntil(number)); break;
            case 10: Dues.due(run + " append " + character, pile.append(character), model.append(character)); break;
            default: Dues.due(run + " count " + what, pile.count(what), model.count(what)); break;
        }
        return 1;
    }
}
