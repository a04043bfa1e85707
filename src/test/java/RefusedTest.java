import java.util.ArrayList;
import java.util.List;
import java.util.function.Supplier;
import java.util.function.ToIntFunction;

/**
 * "Of several the first one in this order. What is refused changes nothing." Each refused call is made on one of two
 * objects of the same past; then both must answer alike, at once and after more calls that are taken.
 */
public final class RefusedTest {
    private static final int BAD = Player.BAD, NONE = Player.NONE, NOT = Player.NOT, FULL = Player.FULL;
    private static final int KEYBOARD = Player.KEYBOARD, STRINGS = Player.STRINGS, WIND = Player.WIND,
            SLIDE = Player.SLIDE, STICKS = Player.STICKS;
    private static final int LEFT = Player.LEFT, RIGHT = Player.RIGHT;
    private static final int MOVE = Player.MOVE, LUNG = Player.LUNG, LOW = Player.LOW, HIGH = Player.HIGH;
    private static final int LEAST = Player.LEAST, MOST = Player.MOST;
    private static final int[] EXTREMES = {LEAST, LEAST + 1, -100001, -2, -1, 0, 1, 2, 3, 39, 40, 99, 100, 127, 128, 300, 301,
        1000, 1001, 100000, 100001, MOST - 1, MOST};

    private interface Past extends Supplier<Player> {
    }

    private interface Call extends ToIntFunction<Player> {
    }

    /** What one may see of an object; in two parts, so that no object is asked more than 512 times. */
    private static List<Integer> look(Player x, int part) {
        List<Integer> seen = new ArrayList<>();
        int size = x.told(0);
        seen.add(size);
        if (part == 0) {
            for (int i = 0; i < size; i++) {
                for (int what = 0; what < 8; what++) {
                    seen.add(x.about(i, what));
                }
            }
            lookAtBounds(x, seen);
        } else {
            lookAtWays(x, seen, size);
            lookAtStates(x, seen, size);
        }
        return seen;
    }

    private static void lookAtBounds(Player x, List<Integer> seen) {
        for (int what = 0; what < 10; what++) {
            int was = x.bound(what, 50);
            seen.add(was);
            x.bound(what, was);
        }
        for (int what = 1; what < 5; what++) {
            seen.add(x.told(what));
        }
        // BOUNDS were changed and changed back: nothing told from here on can be an old answer.
        seen.add(x.price());
        seen.add(x.stuck());
        seen.add(x.ways(300));
    }

    private static void lookAtWays(Player x, List<Integer> seen, int size) {
        seen.add(x.price());
        seen.add(x.stuck());
        seen.add(x.ways(0));
        seen.add(x.ways(25));
        seen.add(x.ways(300));
        for (int i = 0; i < size; i++) {
            seen.add(x.way(i));
        }
    }

    private static void lookAtStates(Player x, List<Integer> seen, int size) {
        for (int i = 0; i < size; i++) {
            int states = x.states(i);
            seen.add(states);
            for (int k = 0; k < states; k++) {
                for (int what = 0; what < 3; what++) {
                    seen.add(x.state(i, k, what));
                }
                seen.add(x.step(i, k, 0));
                seen.add(x.step(i, k, 1));
            }
        }
    }

    /** Calls that depend on what is not seen at once: where each CHAIN ends, and how EVENTS are linked. */
    private static List<Integer> goOn(Player x, int part) {
        List<Integer> seen = new ArrayList<>();
        int size = x.told(0);
        int last = size == 0 ? 0 : x.about(size - 1, 1);
        seen.add(x.bound(MOVE, 0));
        for (int time = last; time <= last + 11; time++) {
            seen.add(x.playBy(RIGHT, time, 10, 60));
            seen.add(x.playBy(LEFT, time, 10, 60));
        }
        int more = x.told(0);
        seen.add(x.price());
        for (int i = Math.max(0, size - 4); i < more; i++) {
            seen.add(x.step(i, 0, 0));
        }
        for (int i = more; i > Math.max(1, size - 1); i--) {
            seen.add(x.drop());
        }
        seen.add(x.pin(0, 1));
        seen.add(x.bound(MOVE, 1));
        seen.addAll(look(x, part));
        return seen;
    }

    private static void refused(String what, Past past, Call call, int want) {
        for (int part = 0; part < 2; part++) {
            Player asked = past.get();
            Due.is(what, call.applyAsInt(asked), want);
            Due.holds(what + " changes nothing", look(asked, part).equals(look(past.get(), part)));
            // What price() found may be kept inside: that must not be spoilt either.
            Player known = past.get();
            known.price();
            call.applyAsInt(known);
            Due.holds(what + " changes nothing known", look(known, part).equals(look(past.get(), part)));
            Player later = past.get();
            call.applyAsInt(later);
            Due.holds(what + " changes nothing later", goOn(later, part).equals(goOn(past.get(), part)));
        }
    }

    /** Three or four EVENTS, one of them PINNED, with BOUNDS that are not as at first; the last one ends at 240. */
    private static Player someEvents(int instrument) {
        Player x = new Player(instrument).with(MOVE, 7).with(LUNG, 70).with(LOW, 20).with(HIGH, 110);
        x.add(100, 10, 58);
        if (instrument == KEYBOARD) {
            x.addBy(RIGHT, 150, 10, 64, 68);
        }
        x.add(160, 10, 60).add(230, 10, 59);
        x.pin(0, 0);
        return x;
    }

    /** Forty EVENTS of one STATE each; the last one ends at 400. */
    private static Player fullOf(int instrument) {
        Player x = new Player(instrument).with(LUNG, 10).with(MOVE, 1);
        int[][] notes = {{60, 76}, {91}, {60}, {46}, {60, 76}};
        for (int i = 0; i < 40; i++) {
            x.add(10 * i, 10, notes[instrument]);
        }
        x.pin(7, 0);
        return x;
    }

    private static void eventBad() {
        Due.sentence("2 BAD: HAND, TIME (0 .. 100000), LENGTH (1 .. 1000), PITCHES, how many. What is refused changes nothing.");
        int[][] bad = {{-1, 500, 10, 60, -1, -1}, {2, 500, 10, 60, -1, -1}, {MOST, 500, 10, 60, -1, -1},
            {0, -1, 10, 60, -1, -1}, {0, 100001, 10, 60, -1, -1}, {0, MOST, 10, 60, -1, -1}, {0, 500, 0, 60, -1, -1},
            {0, 500, 1001, 60, -1, -1}, {0, 500, LEAST, 60, -1, -1}, {0, 500, 10, -1, -1, -1}, {0, 500, 10, 128, -1, -1},
            {0, 500, 10, 60, 60, -1}, {0, 500, 10, 60, 128, -1}, {0, 500, 10, 60, -2, -1}, {0, 500, 10, 60, -1, 64},
            {0, 500, 10, 60, 64, 64}, {0, 500, 10, 60, 64, 128}, {0, 500, 10, 60, 64, -2}};
        for (int instrument = 0; instrument < 5; instrument++) {
            int which = instrument;
            for (int[] b : bad) {
                refused("event " + java.util.Arrays.toString(b), () -> someEvents(which),
                        x -> x.event(b[0], b[1], b[2], b[3], b[4], b[5]), BAD);
                refused("event of nothing " + java.util.Arrays.toString(b), () -> new Player(which),
                        x -> x.event(b[0], b[1], b[2], b[3], b[4], b[5]), BAD);
            }
            if (which != KEYBOARD) {
                refused("HAND 1", () -> someEvents(which), x -> x.playBy(RIGHT, 500, 10, 60), BAD);
            }
            if (which > STRINGS) {
                refused("three notes", () -> someEvents(which), x -> x.play(500, 10, 60, 64, 67), BAD);
            }
            if (which == WIND || which == SLIDE) {
                refused("two notes", () -> someEvents(which), x -> x.play(500, 10, 60, 64), BAD);
            }
        }
    }

    private static void eventNot() {
        Due.sentence("2 NOT: the EVENT does not fit those before it. What is refused changes nothing.");
        for (int instrument = 0; instrument < 5; instrument++) {
            int which = instrument;
            for (int time : new int[] {0, 229, 230}) {
                refused("event at " + time, () -> someEvents(which), x -> x.play(time, 10, 61), NOT);
            }
            if (which == WIND || which == SLIDE) {
                refused("event at 239", () -> someEvents(which), x -> x.play(239, 10, 61), NOT);
            }
        }
        for (int time : new int[] {149, 150, 151, 229}) {
            refused("RIGHT at " + time, () -> someEvents(KEYBOARD), x -> x.playBy(RIGHT, time, 10, 61), NOT);
        }
    }

    private static void eventFull() {
        Due.sentence("2 FULL: no room. What is refused changes nothing.");
        for (int instrument = 0; instrument < 5; instrument++) {
            int which = instrument;
            refused("the 41st", () -> fullOf(which), x -> x.play(400, 10, 61), FULL);
            refused("the 41st at the last time", () -> fullOf(which), x -> x.play(100000, 1000, 61), FULL);
        }
        refused("the 41st, the first of RIGHT", () -> fullOf(KEYBOARD), x -> x.playBy(RIGHT, 390, 10, 61), FULL);
    }

    private static void order() {
        Due.sentence("BAD, NONE, NOT, FULL: Of several the first one in this order.");
        for (int instrument = 0; instrument < 5; instrument++) {
            int which = instrument;
            refused("BAD and NOT", () -> someEvents(which), x -> x.play(230, 0, 61), BAD);
            refused("BAD and NOT: pitch", () -> someEvents(which), x -> x.play(0, 10, 128), BAD);
            refused("BAD and NOT: hand", () -> someEvents(which), x -> x.playBy(2, 0, 10, 60), BAD);
            refused("BAD and NOT: time", () -> someEvents(which), x -> x.play(-1, 10, 60), BAD);
            refused("BAD and FULL", () -> fullOf(which), x -> x.play(400, 1001, 61), BAD);
            refused("NOT and FULL", () -> fullOf(which), x -> x.play(390, 10, 61), NOT);
            refused("BAD, NOT and FULL", () -> fullOf(which), x -> x.play(390, 10, -1), BAD);
            refused("way: BAD and NONE", () -> stuckEvents(which), x -> x.way(x.told(0)), BAD);
            refused("way: BAD and NONE", () -> stuckEvents(which), x -> x.way(-1), BAD);
        }
        refused("step: BAD and NONE", () -> new Player(SLIDE).add(0, 10, 58).add(10, 10, 60), x -> x.step(0, 0, 2), BAD);
        refused("step: NONE", () -> new Player(SLIDE).add(0, 10, 58).add(10, 10, 60), x -> x.step(0, 0, 1), NONE);
        refused("event: NOT ahead of the end and FULL", () -> fullOf(SLIDE), x -> x.play(399, 10, 61), NOT);
        refused("event: NOT below the last and FULL", () -> fullOf(KEYBOARD), x -> x.playBy(RIGHT, 389, 10, 61), NOT);
    }

    private static Player stuckEvents(int instrument) {
        Player x = someEvents(instrument);
        x.pin(1, 99);
        return x;
    }

    private static void dropNone() {
        Due.sentence("3 NONE: there was none. What is refused changes nothing.");
        for (int instrument = 0; instrument < 5; instrument++) {
            int which = instrument;
            refused("drop of nothing", () -> new Player(which), Player::drop, NONE);
            refused("drop after a drop", () -> {
                Player x = new Player(which).with(MOVE, 3).add(0, 10, 60);
                x.drop();
                return x;
            }, Player::drop, NONE);
        }
    }

    private static void boundBad() {
        Due.sentence("4 BAD. What is refused changes nothing.");
        int[] from = {0, 1, 0, 0, 0, 0, 0, 0, 0, 0};
        int[] to = {100, 2000, 200, 127, 127, 100, 127, 127, 127, 127};
        for (int instrument = 0; instrument < 5; instrument++) {
            int which = instrument;
            for (int n = 0; n < 10; n++) {
                int what = n;
                refused("bound(" + what + ", from - 1)", () -> someEvents(which), x -> x.bound(what, from[what] - 1), BAD);
                refused("bound(" + what + ", to + 1)", () -> someEvents(which), x -> x.bound(what, to[what] + 1), BAD);
            }
            for (int what : new int[] {LEAST, -1, 10, MOST}) {
                refused("bound(" + what + ", 5)", () -> someEvents(which), x -> x.bound(what, 5), BAD);
            }
        }
    }

    private static void pinBad() {
        Due.sentence("5 BAD. What is refused changes nothing.");
        for (int instrument = 0; instrument < 5; instrument++) {
            int which = instrument;
            refused("pin(0, 0) of nothing", () -> new Player(which), x -> x.pin(0, 0), BAD);
            for (int state : new int[] {LEAST, -2, 100, MOST}) {
                refused("pin(0, " + state + ")", () -> someEvents(which), x -> x.pin(0, state), BAD);
                refused("pin(1, " + state + ")", () -> someEvents(which), x -> x.pin(1, state), BAD);
            }
            for (int i : new int[] {LEAST, -1, 4, 40, MOST}) {
                refused("pin(" + i + ", 1)", () -> someEvents(which), x -> x.pin(i, 1), BAD);
                refused("pin(" + i + ", -1)", () -> someEvents(which), x -> x.pin(i, -1), BAD);
            }
        }
    }

    private static void askedBad() {
        Due.sentence("6 to 8, 10, 12 to 14 BAD. What is refused changes nothing.");
        for (int instrument = 0; instrument < 5; instrument++) {
            int which = instrument;
            for (int i : new int[] {LEAST, -1, 4, 40, MOST}) {
                refused("states", () -> someEvents(which), x -> x.states(i), BAD);
                refused("state", () -> someEvents(which), x -> x.state(i, 0, 0), BAD);
                refused("step", () -> someEvents(which), x -> x.step(i, 0, 0), BAD);
                refused("way", () -> someEvents(which), x -> x.way(i), BAD);
                refused("about", () -> someEvents(which), x -> x.about(i, 0), BAD);
            }
            for (int v : new int[] {LEAST, -1, 301, MOST}) {
                refused("state's k", () -> someEvents(which), x -> x.state(1, v, 0), BAD);
                refused("state's what", () -> someEvents(which), x -> x.state(0, 0, v), BAD);
                refused("step's k", () -> someEvents(which), x -> x.step(0, v, 0), BAD);
                refused("step's l", () -> someEvents(which), x -> x.step(0, 0, v), BAD);
                refused("ways", () -> someEvents(which), x -> x.ways(v), BAD);
                refused("told", () -> someEvents(which), x -> x.told(v), BAD);
                refused("about's what", () -> someEvents(which), x -> x.about(0, v), BAD);
            }
            refused("step of the last", () -> someEvents(which), x -> x.step(x.told(0) - 1, 0, 0), BAD);
        }
    }

    private static void askedNone() {
        Due.sentence("9 to 11 NONE. What is refused changes nothing.");
        for (int instrument = 0; instrument < 5; instrument++) {
            int which = instrument;
            refused("price", () -> stuckEvents(which), Player::price, NONE);
            refused("way", () -> stuckEvents(which), x -> x.way(0), NONE);
            refused("stuck", () -> new Player(which), Player::stuck, NONE);
            refused("about a free one", () -> someEvents(which), x -> x.about(1, 7), NONE);
        }
    }

    private static Player any(int instrument, int size) {
        Player x = new Player(instrument);
        for (int i = 0; i < size; i++) {
            x.play(10 * i, 10, 60);
        }
        return x;
    }

    private static boolean within(int v, int from, int to) {
        return v >= from && v <= to;
    }

    /** Every number there is may be asked with: what is none that there is, is BAD, and nothing is thrown. */
    private static void extremesOfTwo() {
        Due.sentence("BAD: a number is none that there is, or outside what is told");
        int[] from = {0, 1, 0, 0, 0, 0, 0, 0, 0, 0};
        int[] to = {100, 2000, 200, 127, 127, 100, 127, 127, 127, 127};
        for (int instrument = 0; instrument < 5; instrument++) {
            for (int size : new int[] {0, 1, 3, 40}) {
                for (int a : EXTREMES) {
                    Player x = any(instrument, size);
                    boolean event = within(a, 0, size - 1);
                    Due.holds("states(" + a + ")", (x.states(a) == BAD) == !event);
                    Due.holds("way(" + a + ")", (x.way(a) == BAD) == !event);
                    Due.holds("ways(" + a + ")", (x.ways(a) == BAD) == !within(a, 0, 300));
                    Due.holds("told(" + a + ")", (x.told(a) == BAD) == !within(a, 0, 4));
                    for (int b : EXTREMES) {
                        Due.holds("about(" + a + ", " + b + ")", (x.about(a, b) == BAD) == !(event && within(b, 0, 7)));
                        Due.holds("pin(" + a + ", " + b + ")", (x.pin(a, b) == BAD) == !(event && within(b, -1, 99)));
                        boolean bound = within(a, 0, 9) && within(b, from[a], to[a]);
                        Due.holds("bound(" + a + ", " + b + ")", (x.bound(a, b) == BAD) == !bound);
                    }
                }
            }
        }
    }

    private static void extremesOfThree() {
        Due.sentence("BAD: a number is none that there is, or outside what is told: of three.");
        for (int instrument = 0; instrument < 5; instrument++) {
            for (int size : new int[] {0, 1, 3}) {
                int[] states = new int[3];
                for (int i = 0; i < size; i++) {
                    states[i] = any(instrument, size).states(i);
                }
                for (int a : EXTREMES) {
                    for (int b : EXTREMES) {
                        Player x = any(instrument, size);
                        boolean state = within(a, 0, size - 1) && within(b, 0, states[a] - 1);
                        for (int c : EXTREMES) {
                            boolean told = state && within(c, 0, 2);
                            // OTHER may be -1, and then looks like BAD.
                            boolean unclear = told && instrument == STICKS && c == 2;
                            Due.holds("state(" + a + ", " + b + ", " + c + ")", unclear || (x.state(a, b, c) == BAD) == !told);
                            boolean steps = state && a < size - 1 && within(c, 0, states[a + 1] - 1);
                            Due.holds("step(" + a + ", " + b + ", " + c + ")", (x.step(a, b, c) == BAD) == !steps);
                        }
                    }
                }
            }
        }
    }

    private static boolean areNotes(int p, int q, int r, int most) {
        if (!within(p, 0, 127)) {
            return false;
        }
        if (q == -1) {
            return r == -1;
        }
        if (!within(q, p + 1, 127) || most < 2) {
            return false;
        }
        return r == -1 || (within(r, q + 1, 127) && most > 2);
    }

    private static void extremesOfEvent() {
        Due.sentence("2 BAD: of all six numbers.");
        int[] few = {LEAST, -2, -1, 0, 1, 2, 127, 128, 1000, 1001, 100000, 100001, MOST};
        int[] most = {3, 3, 1, 1, 2};
        for (int instrument = 0; instrument < 5; instrument++) {
            for (int a : few) {
                for (int b : few) {
                    for (int c : few) {
                        boolean fine = within(a, 0, instrument == KEYBOARD ? 1 : 0) && within(b, 0, 100000) && within(c, 1, 1000);
                        Player x = new Player(instrument);
                        Due.is("event(" + a + ", " + b + ", " + c + ", 60)", x.event(a, b, c, 60, -1, -1), fine ? 0 : BAD);
                        Player y = new Player(instrument);
                        boolean notes = areNotes(a, b, c, most[instrument]);
                        Due.is("event of " + a + ", " + b + ", " + c, y.event(0, 0, 1, a, b, c), notes ? 0 : BAD);
                    }
                }
            }
        }
    }

    public static void main(String[] args) {
        eventBad();
        eventNot();
        eventFull();
        order();
        dropNone();
        boundBad();
        pinBad();
        askedBad();
        askedNone();
        extremesOfTwo();
        extremesOfThree();
        extremesOfEvent();
        Due.end();
    }
}
