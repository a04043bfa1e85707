/** The boundary sentences of "What it is" and of "Terms", each at its edge and at both sides of it. */
public final class TermsTest {
    private static final int BAD = Player.BAD, NONE = Player.NONE, NOT = Player.NOT, FULL = Player.FULL;
    private static final int KEYBOARD = Player.KEYBOARD, STRINGS = Player.STRINGS, WIND = Player.WIND,
            SLIDE = Player.SLIDE, STICKS = Player.STICKS;
    private static final int LEFT = Player.LEFT, RIGHT = Player.RIGHT;
    private static final int MOVE = Player.MOVE, LUNG = Player.LUNG, BREATH = Player.BREATH, LOW = Player.LOW,
            HIGH = Player.HIGH;
    private static final int LEAST = Player.LEAST, MOST = Player.MOST;
    private static final int[] NOTES_TO = {3, 3, 1, 1, 2};

    private static void fortyEvents() {
        Due.sentence("EVENTS, 40 at most, are numbered 0, 1, .. as they come.");
        for (int instrument = 0; instrument < 5; instrument++) {
            Player x = new Player(instrument);
            for (int i = 0; i < 40; i++) {
                Due.is("event " + i + " on " + instrument, x.play(10 * i, 10, 60), i);
            }
            Due.is("the 41st on " + instrument, x.play(400, 10, 60), FULL);
            Due.is("a 41st much later on " + instrument, x.play(100000, 10, 60), FULL);
            Due.is("still forty", x.told(0), 40);
            Due.is("one goes", x.drop(), 39);
            Due.is("the 40th again, in another's place", x.play(395, 10, 61), 39);
            Due.is("it is the new one", x.about(39, 4), 61);
            Due.is("and again the 41st", x.play(405, 10, 60), FULL);
        }
    }

    private static void fortyOfBothHands() {
        Due.sentence("EVENTS, 40 at most: of both CHAINS together.");
        Player x = new Player(KEYBOARD);
        for (int i = 0; i < 40; i++) {
            Due.is("event " + i, x.playBy(i % 4 == 3 ? LEFT : RIGHT, i, 1, 60), i);
        }
        Due.is("a 41st of LEFT", x.playBy(LEFT, 100, 1, 60), FULL);
        Due.is("a 41st of RIGHT", x.playBy(RIGHT, 100, 1, 60), FULL);
        Due.is("of LEFT", x.told(1), 10);
        Due.is("of RIGHT", x.told(2), 30);
        Player y = new Player(KEYBOARD);
        for (int i = 0; i < 40; i++) {
            y.addBy(RIGHT, i, 1, 60);
        }
        Due.is("the first of LEFT, when RIGHT has all 40", y.playBy(LEFT, 100, 1, 60), FULL);
    }

    private static Player after(int calls, int instrument) {
        Player x = new Player(instrument);
        x.add(0, 10, 60);
        while (x.calls() < calls - 1) {
            x.bound(MOVE, x.calls() % 50);
        }
        x.bound(MOVE, 1);
        return x;
    }

    private static void calls512() {
        Due.sentence("An object is used for at most 512 calls after it has been made.");
        for (int instrument = 0; instrument < 5; instrument++) {
            int[] states = {5, 4, 1, 2, 2};
            Due.is("event as the 512th", after(511, instrument).play(20, 10, 60), 1);
            Due.is("drop as the 512th", after(511, instrument).drop(), 0);
            Due.is("bound as the 512th", after(511, instrument).bound(MOVE, 3), 1);
            Due.is("pin as the 512th", after(511, instrument).pin(0, 0), NONE);
            Due.is("states as the 512th", after(511, instrument).states(0), states[instrument]);
            Due.is("state as the 512th", after(511, instrument).state(0, states[instrument], 0), BAD);
            Due.is("step as the 512th", after(511, instrument).step(0, 0, 0), BAD);
            Due.is("price as the 512th", after(511, instrument).price(), instrument == STRINGS ? 1 : 0);
            Due.is("way as the 512th", after(511, instrument).way(0), instrument == STRINGS ? 1 : 0);
            Due.is("stuck as the 512th", after(511, instrument).stuck(), NONE);
            Due.is("ways as the 512th", after(511, instrument).ways(300), states[instrument]);
            Due.is("told as the 512th", after(511, instrument).told(3), instrument);
            Due.is("about as the 512th", after(511, instrument).about(0, 4), 60);
        }
    }

    private static void changedUpTo512() {
        Due.sentence("An object is used for at most 512 calls: what the first 511 changed is in the 512th.");
        for (int instrument = 0; instrument < 5; instrument++) {
            Player x = new Player(instrument);
            for (int n = 0; n < 255; n++) {
                Due.is("event, call " + x.calls(), x.play(n % 100, 10, n % 128), 0);
                Due.is("drop, call " + x.calls(), x.drop(), 0);
            }
            Due.is("call " + x.calls(), x.play(7, 9, 60), 0);
            Due.is("call " + x.calls(), x.about(0, 1), 7);
            Due.is("calls", x.calls(), 512);
        }
    }

    private static void after512() {
        Due.sentence("What later calls answer is free: but none throws (LANGUAGE.md 7).");
        for (int instrument = 0; instrument < 5; instrument++) {
            PlaySpans x = new PlaySpans(instrument);
            for (int n = 0; n < 2000; n++) {
                x.event(0, 10 * n, 10, 60, -1, -1);
                x.pin(n % 50, n % 120 - 5);
                x.bound(n % 12 - 1, n % 210 - 5);
                x.step(n % 42 - 1, n % 5, n % 3);
                x.state(n % 42 - 1, n % 5, n % 4);
                x.way(n % 42 - 1);
                if (n % 3 == 0) {
                    x.drop();
                }
            }
            Due.holds("nothing was thrown", true);
        }
    }

    private static void hands() {
        Due.sentence("Each has a HAND (0 LEFT, 1 RIGHT; 0 but on a KEYBOARD)");
        for (int instrument = 0; instrument < 5; instrument++) {
            for (int hand : new int[] {LEAST, -1, 0, 1, 2, 3, MOST}) {
                boolean fine = hand == 0 || (hand == 1 && instrument == KEYBOARD);
                Player x = new Player(instrument);
                Due.is("hand " + hand + " on " + instrument, x.playBy(hand, 0, 1, 60), fine ? 0 : BAD);
                Due.is("events then", x.told(0), fine ? 1 : 0);
                Due.is("its hand", x.about(0, 0), fine ? hand : BAD);
            }
        }
    }

    private static void pitches() {
        Due.sentence("NOTES: PITCHES 0 .. 127");
        int[] outside = {LEAST, -2, 128, 129, MOST};
        for (int instrument = 0; instrument < 5; instrument++) {
            for (int p : new int[] {LEAST, -2, -1, 0, 1, 126, 127, 128, MOST}) {
                boolean fine = p >= 0 && p <= 127;
                Due.is("p " + p, new Player(instrument).event(0, 0, 1, p, -1, -1), fine ? 0 : BAD);
            }
            for (int v : outside) {
                Due.is("q " + v, new Player(instrument).event(0, 0, 1, 60, v, -1), BAD);
                Due.is("q and r " + v, new Player(instrument).event(0, 0, 1, 60, v, v), BAD);
                Due.is("r " + v + " without q", new Player(instrument).event(0, 0, 1, 60, -1, v), BAD);
                Due.is("r " + v, new Player(instrument).event(0, 0, 1, 60, 64, v), BAD);
            }
            int two = NOTES_TO[instrument] > 1 ? 0 : BAD;
            int three = NOTES_TO[instrument] > 2 ? 0 : BAD;
            Due.is("q 127", new Player(instrument).event(0, 0, 1, 126, 127, -1), two);
            Due.is("q 128", new Player(instrument).event(0, 0, 1, 127, 128, -1), BAD);
            Due.is("p 0, q 1", new Player(instrument).event(0, 0, 1, 0, 1, -1), two);
            Due.is("p -1, q 0", new Player(instrument).event(0, 0, 1, -1, 0, -1), BAD);
            Due.is("p -1, q 0, r 1", new Player(instrument).event(0, 0, 1, -1, 0, 1), BAD);
            Due.is("r 127", new Player(instrument).event(0, 0, 1, 125, 126, 127), three);
            Due.is("r 128", new Player(instrument).event(0, 0, 1, 126, 127, 128), BAD);
            Due.is("0, 1, 127", new Player(instrument).event(0, 0, 1, 0, 1, 127), three);
        }
    }

    private static void rising() {
        Due.sentence("PITCHES rising, each above the one before.");
        for (int instrument = 0; instrument < 5; instrument++) {
            int two = NOTES_TO[instrument] > 1 ? 0 : BAD;
            int three = NOTES_TO[instrument] > 2 ? 0 : BAD;
            Due.is("q below p", new Player(instrument).event(0, 0, 1, 60, 59, -1), BAD);
            Due.is("q as p", new Player(instrument).event(0, 0, 1, 60, 60, -1), BAD);
            Due.is("q just above p", new Player(instrument).event(0, 0, 1, 60, 61, -1), two);
            Due.is("r below q", new Player(instrument).event(0, 0, 1, 60, 64, 63), BAD);
            Due.is("r as q", new Player(instrument).event(0, 0, 1, 60, 64, 64), BAD);
            Due.is("r just above q", new Player(instrument).event(0, 0, 1, 60, 64, 65), three);
            Due.is("r below p", new Player(instrument).event(0, 0, 1, 60, 64, 59), BAD);
            Due.is("q below p, r above both", new Player(instrument).event(0, 0, 1, 60, 59, 61), BAD);
            Due.is("q as p, r above", new Player(instrument).event(0, 0, 1, 60, 60, 61), BAD);
            Due.is("0 and 0", new Player(instrument).event(0, 0, 1, 0, 0, -1), BAD);
            Due.is("127 and 127", new Player(instrument).event(0, 0, 1, 127, 127, -1), BAD);
        }
    }

    private static void howManyNotes() {
        Due.sentence("how many NOTES an EVENT may have: KEYBOARD (1 to 3), STRINGS (1 to 3), WIND (1), SLIDE (1), STICKS (1, 2)");
        int[][] notes = {{-1, -1, -1}, {60, -1, -1}, {60, 64, -1}, {60, 64, 67}};
        for (int instrument = 0; instrument < 5; instrument++) {
            for (int n = 0; n < 4; n++) {
                boolean fine = n >= 1 && n <= NOTES_TO[instrument];
                Player x = new Player(instrument);
                Due.is(n + " notes on " + instrument, x.event(0, 0, 1, notes[n][0], notes[n][1], notes[n][2]), fine ? 0 : BAD);
                Due.is("events then", x.told(0), fine ? 1 : 0);
                Due.is("its notes", x.about(0, 3), fine ? n : BAD);
            }
        }
    }

    private static void bounds() {
        Due.sentence("BOUNDS (what, from, to, at first)");
        int[][] told = {{0, 100, 10}, {1, 2000, 400}, {0, 200, 30}, {0, 127, 0}, {0, 127, 127}, {0, 100, 34},
            {0, 127, 55}, {0, 127, 62}, {0, 127, 69}, {0, 127, 76}};
        for (int instrument = 0; instrument < 5; instrument++) {
            for (int what = 0; what < 10; what++) {
                int from = told[what][0];
                int to = told[what][1];
                Player x = new Player(instrument);
                String name = "bound(" + what + ", ";
                Due.is(name + "from), at first", x.bound(what, from), told[what][2]);
                Due.is(name + "from - 1)", x.bound(what, from - 1), BAD);
                Due.is(name + "from + 1)", x.bound(what, from + 1), from);
                Due.is(name + "to)", x.bound(what, to), from + 1);
                Due.is(name + "to + 1)", x.bound(what, to + 1), BAD);
                Due.is(name + "least)", x.bound(what, LEAST), BAD);
                Due.is(name + "most)", x.bound(what, MOST), BAD);
                Due.is(name + "to - 1)", x.bound(what, to - 1), to);
                Due.is(name + "to - 1) again", x.bound(what, to - 1), to - 1);
                for (int other = 0; other < 10; other++) {
                    if (other != what) {
                        Due.is("another one, " + other, x.bound(other, 50), told[other][2]);
                    }
                }
            }
        }
    }

    private static void lowAndHigh() {
        Due.sentence("With a NOTE below LOW or above HIGH it has no STATES.");
        int[] free = {5, 4, 1, 2, 2};
        for (int instrument = 0; instrument < 5; instrument++) {
            Player x = new Player(instrument).add(0, 10, 60);
            Due.is("free", x.states(0), free[instrument]);
            x.with(LOW, 59);
            Due.is("LOW below it", x.states(0), free[instrument]);
            x.with(LOW, 60);
            Due.is("LOW as it", x.states(0), free[instrument]);
            x.with(LOW, 61);
            dueNoStates(x);
            x.with(LOW, 60).with(HIGH, 61);
            Due.is("HIGH above it", x.states(0), free[instrument]);
            x.with(HIGH, 60);
            Due.is("LOW and HIGH as it", x.states(0), free[instrument]);
            x.with(LOW, 0).with(HIGH, 59);
            dueNoStates(x);
            x.with(LOW, 61);
            dueNoStates(x);
            Due.is("an event may come all the same", x.play(10, 10, 60), 1);
            Due.is("without states", x.states(1), 0);
            Due.is("and no step", x.step(0, 0, 0), BAD);
            x.with(LOW, 0).with(HIGH, 127);
            Due.is("as at first", x.states(0), free[instrument]);
            Due.is("not stuck", x.stuck(), NONE);
        }
    }

    private static void dueNoStates(Player x) {
        Due.is("states", x.states(0), 0);
        Due.is("no state 0", x.state(0, 0, 0), BAD);
        Due.is("stuck", x.stuck(), 0);
        Due.is("price", x.price(), NONE);
        Due.is("way", x.way(0), NONE);
        Due.is("ways", x.ways(300), 0);
    }

    private static void lowAndHighOfSeveral() {
        Due.sentence("With a NOTE below LOW or above HIGH: one of several is enough.");
        int[][] notes = {{60, 64}, {60, 64, 67}};
        for (int instrument : new int[] {KEYBOARD, STRINGS, STICKS}) {
            for (int[] chord : notes) {
                if (chord.length > NOTES_TO[instrument]) {
                    continue;
                }
                int top = chord[chord.length - 1];
                Player x = new Player(instrument).with(Player.OPEN, 56).with(Player.OPEN + 1, 60)
                        .with(Player.OPEN + 2, 63).add(0, 10, chord);
                int free = x.states(0);
                Due.holds("it has states", free > 0);
                x.with(LOW, 60).with(HIGH, top);
                Due.is("just within", x.states(0), free);
                x.with(LOW, 61);
                Due.is("the lowest is below LOW", x.states(0), 0);
                x.with(LOW, 60).with(HIGH, top - 1);
                Due.is("the highest is above HIGH", x.states(0), 0);
                x.with(LOW, 62).with(HIGH, 127);
                Due.is("the others are not below LOW", x.states(0), 0);
                x.with(LOW, 0).with(HIGH, 62);
                Due.is("the lowest is not above HIGH", x.states(0), 0);
            }
        }
    }

    private static void gap() {
        Due.sentence("GAP is the TIME of the next EVENT less that of this one.");
        // The next one is that of its CHAIN; LENGTHS do not matter.
        Player x = new Player(KEYBOARD).addBy(RIGHT, 100, 1000, 60).addBy(LEFT, 130, 5, 40).addBy(RIGHT, 140, 5, 64);
        Due.is("4 in 40", x.step(0, 0, 0), 7);
        Due.is("6 in 40", x.step(0, 1, 0), NONE);
        x.with(MOVE, 11);
        Due.is("4 by 11 in 40", x.step(0, 0, 0), NONE);
        Player y = new Player(SLIDE).add(0, 39, 58).add(40, 10, 52);
        Due.is("from 4 to 6 in 40", y.step(0, 1, 1), 2);
        y.with(MOVE, 20);
        Due.is("from 4 to 6 by 20 in 40", y.step(0, 1, 1), 2);
        y.with(MOVE, 21);
        Due.is("from 4 to 6 by 21 in 40", y.step(0, 1, 1), NONE);
    }

    private static void aWay() {
        Due.sentence("A WAY has for each EVENT one of its STATES, such that there is a STEP from each to the next of its CHAIN; its PRICE is all of those of STATES and STEPS together.");
        // Places {0, 4}, then {2, 5}: 5 costs 1 of its own.
        Player x = new Player(SLIDE).add(0, 10, 58);
        Due.is("two of one event", x.ways(0), 2);
        x.add(50, 10, 60);
        Due.is("none for 1", x.ways(1), 0);
        Due.is("0 and 2, 4 and 2, 4 and 5 for 2", x.ways(2), 3);
        Due.is("none more for 5", x.ways(5), 3);
        Due.is("0 and 5 for 6", x.ways(6), 4);
        x.with(MOVE, 11);
        Due.is("not from 0 to 5 by 11 in 50", x.ways(300), 3);
        x.with(MOVE, 26);
        Due.is("from 4 to 5 by 26 in 50", x.ways(300), 1);
        Due.is("its price", x.price(), 2);
        x.with(MOVE, 51);
        Due.is("none by 51 in 50", x.ways(300), 0);
        Due.is("no price", x.price(), NONE);
    }

    private static void theWayOfSeveral() {
        Due.sentence("THE WAY is one of the least PRICE; of several the one whose STATE has the lesser number, where two differ first (by EVENTS in order).");
        // A breath before the second or before the third: 0, 0, 1 and 0, 1, 0 cost the same.
        Player wind = new Player(WIND).with(LUNG, 200).with(BREATH, 10).add(0, 100, 60).add(120, 100, 60).add(240, 100, 60);
        Due.is("two ways for 1", wind.ways(1), 2);
        Due.is("price", wind.price(), 1);
        wind.dueWay("as late as can be", 0, 0, 1);
        wind.pin(1, 1);
        wind.dueWay("the second one, if it must be", 0, 1, 0);
        Due.is("price of that", wind.price(), 1);
        Player dear = new Player(WIND).with(LUNG, 200).with(BREATH, 10).add(0, 100, 60).add(120, 100, 60).add(229, 100, 60);
        Due.is("one way for 1", dear.ways(1), 1);
        dear.dueWay("the lesser price before the lesser number", 0, 1, 0);
        Player slide = new Player(SLIDE).add(0, 10, 58).add(100, 10, 60);
        slide.dueWay("of 0 0, 1 0 and 1 1 the first", 0, 0);
        slide.pin(1, 1);
        slide.dueWay("5 is nearer to 4", 1, 1);
    }

    private static void theWayOfTwoChains() {
        Due.sentence("THE WAY (by EVENTS in order): over both CHAINS.");
        // From 60 to 62 by the next finger costs nothing; so does the left from 62 to 60.
        Player x = new Player(KEYBOARD).addBy(LEFT, 0, 10, 62).addBy(RIGHT, 0, 10, 60).addBy(RIGHT, 50, 10, 62)
                .addBy(LEFT, 50, 10, 60);
        Due.is("four of each hand for nothing", x.ways(0), 16);
        Due.is("price", x.price(), 0);
        x.dueWay("the first of them", 0, 0, 1, 1);
        x.pin(2, 3);
        x.dueWay("another finger of the right", 0, 2, 3, 1);
        x.pin(3, 4);
        x.dueWay("another finger of the left", 3, 2, 3, 4);
        x.pin(3, 5);
        x.dueWay("none for the left, none for both", NONE, NONE, NONE, NONE);
        Due.is("the left is stuck", x.stuck(), 3);
    }

    private static void pinned() {
        Due.sentence("PINNED, an EVENT must have a STATE of a number (perhaps it has none such: then there is no WAY).");
        int[] free = {5, 4, 1, 2, 2};
        for (int instrument = 0; instrument < 5; instrument++) {
            Player x = new Player(instrument).add(0, 10, 60);
            int n = free[instrument];
            Due.is("free ways", x.ways(300), n);
            for (int k : new int[] {0, n - 1}) {
                x.pin(0, k);
                Due.is("pinned to " + k, x.way(0), k);
                Due.is("one way", x.ways(300), 1);
                Due.is("its price", x.price(), x.state(0, k, 0));
                Due.is("not stuck", x.stuck(), NONE);
            }
            for (int k : new int[] {n, n + 1, 99}) {
                x.pin(0, k);
                Due.is("pinned to " + k, x.way(0), NONE);
                Due.is("no way", x.ways(300), 0);
                Due.is("no price", x.price(), NONE);
                Due.is("stuck", x.stuck(), 0);
                Due.is("its states are the same", x.states(0), n);
            }
            x.pin(0, -1);
            Due.is("free ways again", x.ways(300), n);
        }
    }

    private static void pinnedToWhatComes() {
        Due.sentence("PINNED to a number that it has none such of: it may have one later.");
        Player x = new Player(WIND).with(LUNG, 100).add(0, 100, 60).add(200, 100, 60);
        x.pin(1, 1);
        Due.is("one state alone", x.states(1), 1);
        Due.is("stuck", x.stuck(), 1);
        x.with(LUNG, 199);
        Due.is("stuck still", x.stuck(), 1);
        x.with(LUNG, 200);
        Due.is("two states", x.states(1), 2);
        Due.is("not stuck", x.stuck(), NONE);
        Due.is("a breath", x.price(), 1);
        Due.is("it is still pinned", x.about(1, 7), 1);
    }

    private static void chains() {
        Due.sentence("A CHAIN is all EVENTS of one HAND, in order.");
        Player x = new Player(KEYBOARD).addBy(LEFT, 0, 10, 60).addBy(RIGHT, 10, 10, 100).addBy(RIGHT, 20, 10, 100)
                .addBy(LEFT, 30, 10, 60);
        Due.is("left to left, over the right", x.step(0, 0, 0), 0);
        Due.is("right to right", x.step(1, 0, 0), 0);
        Due.is("the last of the right", x.step(2, 0, 0), BAD);
        Due.is("the last of the left", x.step(3, 0, 0), BAD);
        Due.is("price", x.price(), 0);
        Player y = new Player(KEYBOARD).addBy(LEFT, 0, 10, 60).addBy(RIGHT, 0, 10, 60);
        Due.is("one of each: no step", y.step(0, 0, 0), BAD);
        Due.is("an earlier one has no place", y.playBy(RIGHT, 0, 10, 60), NOT);
    }

    public static void main(String[] args) {
        fortyEvents();
        fortyOfBothHands();
        calls512();
        changedUpTo512();
        after512();
        hands();
        pitches();
        rising();
        howManyNotes();
        bounds();
        lowAndHigh();
        lowAndHighOfSeveral();
        gap();
        aWay();
        theWayOfSeveral();
        theWayOfTwoChains();
        pinned();
        pinnedToWhatComes();
        chains();
        Due.end();
    }
}
