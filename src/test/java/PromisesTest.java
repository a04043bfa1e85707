/**
 * Each promise of the document by answers worked out by hand: ordinary inputs, edges and wrong inputs.
 */
public final class PromisesTest {
    private static final int BAD = PlaySpans.BAD, NONE = PlaySpans.NONE, NOT = PlaySpans.NOT, FULL = PlaySpans.FULL;
    private static final int KEYBOARD = 0, STRINGS = 1, WIND = 2, SLIDE = 3, STICKS = 4;
    private static final int LEFT = 0, RIGHT = 1;
    private static final int MOVE = 0, LUNG = 1, BREATH = 2, LOW = 3, HIGH = 4, BASE = 5;
    private static final int LEAST = Integer.MIN_VALUE, MOST = Integer.MAX_VALUE;
    private static int wrong = 0;
    private static int asked = 0;

    private static void due(String what, int got, int want) {
        asked++;
        if (got != want) {
            wrong++;
            System.out.println(what + " answered " + got + ", due is " + want);
        }
    }

    /** Adds an EVENT of HAND 0 that must be taken. */
    private static void add(PlaySpans x, int time, int length, int... notes) {
        addFor(x, 0, time, length, notes);
    }

    private static void addFor(PlaySpans x, int hand, int time, int length, int... notes) {
        int n = notes.length;
        int number = x.told(0);
        due("adding an event at " + time, x.event(hand, time, length, notes[0], n > 1 ? notes[1] : -1,
                n > 2 ? notes[2] : -1), number);
    }

    /** Each STATE is told as {PRICE, what 1, what 2}. */
    private static void dueStates(String what, PlaySpans x, int i, int[]... want) {
        due(what + ": states", x.states(i), want.length);
        for (int k = 0; k < want.length; k++) {
            for (int w = 0; w < 3; w++) {
                due(what + ": state(" + i + ", " + k + ", " + w + ")", x.state(i, k, w), want[k][w]);
            }
        }
        due(what + ": one state more", x.state(i, want.length, 0), BAD);
    }

    private static void dueWay(String what, PlaySpans x, int... want) {
        for (int i = 0; i < want.length; i++) {
            due(what + ": way(" + i + ")", x.way(i), want[i]);
        }
    }

    private static void newObject() {
        int[][] nearest = {{LEAST, 0}, {-1, 0}, {0, 0}, {1, 1}, {2, 2}, {3, 3}, {4, 4}, {5, 4}, {MOST, 4}};
        int[] first = {10, 400, 30, 0, 127, 34, 55, 62, 69, 76};
        for (int[] pair : nearest) {
            PlaySpans x = new PlaySpans(pair[0]);
            due("1: instrument of " + pair[0], x.told(3), pair[1]);
            for (int what : new int[] {0, 1, 2, 4}) {
                due("1: told(" + what + ") of a new one", x.told(what), 0);
            }
            for (int what = 0; what < 10; what++) {
                due("1: bound " + what + " at first", x.bound(what, 50), first[what]);
            }
            due("1: price of nothing", x.price(), 0);
            due("1: stuck in nothing", x.stuck(), NONE);
            due("1: ways of nothing", x.ways(0), 1);
            due("1: way of nothing", x.way(0), BAD);
        }
        PlaySpans one = new PlaySpans(0), other = new PlaySpans(0);
        add(one, 0, 1, 60);
        one.bound(MOVE, 3);
        due("1: objects are apart", other.told(0), 0);
        due("1: bounds are apart", other.bound(MOVE, 4), 10);
    }

    private static void eventBad() {
        PlaySpans x = new PlaySpans(KEYBOARD);
        int[][] bad = {
            {-1, 0, 1, 60, -1, -1}, {2, 0, 1, 60, -1, -1}, {LEAST, 0, 1, 60, -1, -1}, {MOST, 0, 1, 60, -1, -1},
            {0, -1, 1, 60, -1, -1}, {0, 100001, 1, 60, -1, -1}, {0, LEAST, 1, 60, -1, -1}, {0, MOST, 1, 60, -1, -1},
            {0, 0, 0, 60, -1, -1}, {0, 0, 1001, 60, -1, -1}, {0, 0, LEAST, 60, -1, -1}, {0, 0, MOST, 60, -1, -1},
            {0, 0, 1, -1, -1, -1}, {0, 0, 1, 128, -1, -1}, {0, 0, 1, -1, 60, -1}, {0, 0, 1, LEAST, -1, -1},
            {0, 0, 1, 60, 60, -1}, {0, 0, 1, 60, 59, -1}, {0, 0, 1, 60, 128, -1}, {0, 0, 1, 60, -2, -1},
            {0, 0, 1, 60, -1, 64}, {0, 0, 1, 60, -1, -2}, {0, 0, 1, 60, 64, 64}, {0, 0, 1, 60, 64, 63},
            {0, 0, 1, 60, 64, 128}, {0, 0, 1, 60, 64, -2}, {0, 0, 1, 60, MOST, -1}, {0, 0, 1, 60, 64, MOST},
        };
        for (int[] b : bad) {
            due("2: event " + java.util.Arrays.toString(b), x.event(b[0], b[1], b[2], b[3], b[4], b[5]), BAD);
        }
        due("2: refused changes nothing", x.told(0), 0);
        for (int instrument = 0; instrument < 5; instrument++) {
            PlaySpans y = new PlaySpans(instrument);
            int most = new int[] {3, 3, 1, 1, 2}[instrument];
            due("2: three notes on " + instrument, y.event(0, 0, 1, 60, 64, 67), most == 3 ? 0 : BAD);
            due("2: two notes on " + instrument, y.event(0, 2000, 1, 60, 64, -1), most > 1 ? most - 2 : BAD);
            due("2: one note on " + instrument, y.event(0, 4000, 1, 60, -1, -1), most - 1);
            due("2: right hand on " + instrument, y.event(1, 6000, 1, 60, -1, -1),
                    instrument == KEYBOARD ? 3 : BAD);
        }
        PlaySpans edges = new PlaySpans(KEYBOARD);
        add(edges, 0, 1000, 0, 1, 127);
        add(edges, 1, 1, 126, 127);
        add(edges, 100000, 1, 127);
    }

    private static void eventNot() {
        PlaySpans x = new PlaySpans(KEYBOARD);
        addFor(x, RIGHT, 100, 50, 60);
        due("2: same time, same hand", x.event(RIGHT, 100, 50, 60, -1, -1), NOT);
        due("2: earlier, other hand", x.event(LEFT, 99, 50, 60, -1, -1), NOT);
        addFor(x, LEFT, 100, 50, 40);
        addFor(x, RIGHT, 101, 50, 60);
        due("2: below the last, above its chain's", x.event(LEFT, 100, 50, 60, -1, -1), NOT);
        addFor(x, LEFT, 101, 50, 40);
        due("2: NOT changes nothing", x.told(0), 4);
        for (int instrument = 0; instrument < 5; instrument++) {
            PlaySpans y = new PlaySpans(instrument);
            add(y, 100, 50, 60);
            boolean waits = instrument == WIND || instrument == SLIDE;
            due("2: the same time on " + instrument, y.event(0, 100, 1, 60, -1, -1), NOT);
            due("2: ahead of the end on " + instrument, y.event(0, 149, 1, 60, -1, -1), waits ? NOT : 1);
            due("2: at the end on " + instrument, y.event(0, 150, 1, 60, -1, -1), waits ? 1 : 2);
            due("2: BAD before NOT on " + instrument, y.event(0, 0, 0, 60, -1, -1), BAD);
        }
    }

    private static void eventFull() {
        for (int instrument = 0; instrument < 5; instrument++) {
            PlaySpans x = new PlaySpans(instrument);
            for (int i = 0; i < 40; i++) {
                due("2: event " + i + " on " + instrument, x.event(0, i * 10, 10, 60, -1, -1), i);
            }
            due("2: the 41st", x.event(0, 1000, 10, 60, -1, -1), FULL);
            due("2: NOT before FULL", x.event(0, 390, 10, 60, -1, -1), NOT);
            due("2: BAD before FULL", x.event(0, 1000, 0, 60, -1, -1), BAD);
            due("2: FULL changes nothing", x.told(0), 40);
            due("2: one goes", x.drop(), 39);
            due("2: one comes", x.event(0, 1000, 10, 60, -1, -1), 39);
        }
    }

    private static void drop() {
        PlaySpans x = new PlaySpans(KEYBOARD);
        due("3: nothing to drop", x.drop(), NONE);
        addFor(x, LEFT, 0, 10, 48);
        addFor(x, RIGHT, 50, 10, 60);
        addFor(x, LEFT, 100, 10, 50);
        x.pin(2, 4);
        x.pin(1, 2);
        due("3: there is a step", x.step(0, 0, 0), 5);
        due("3: a pinned one goes", x.drop(), 2);
        due("3: its pin too", x.told(4), 1);
        due("3: no event more", x.about(2, 0), BAD);
        due("3: no next one more", x.step(0, 0, 0), BAD);
        due("3: chain of the left", x.told(1), 1);
        addFor(x, LEFT, 60, 10, 52);
        due("3: the new one is free", x.about(2, 7), NONE);
        due("3: it has its own states", x.state(2, 0, 2), 52);
        due("3", x.drop(), 2);
        due("3", x.drop(), 1);
        due("3: the right hand may begin anew", x.event(RIGHT, 0, 10, 60, -1, -1), 1);
        due("3", x.drop(), 1);
        due("3", x.drop(), 0);
        due("3: none left", x.drop(), NONE);
        due("3: price of none", x.price(), 0);
        PlaySpans y = new PlaySpans(SLIDE);
        add(y, 0, 10, 58);
        add(y, 10, 10, 40);
        due("3: too far", y.price() * 10 + y.stuck(), NONE * 10 + 1);
        due("3: too far", y.way(0), NONE);
        y.drop();
        due("3: not too far any more", y.price() * 10 + y.stuck(), NONE);
        due("3: not too far any more", y.way(0), 0);
    }

    private static void bound() {
        int[] from = {0, 1, 0, 0, 0, 0, 0, 0, 0, 0};
        int[] to = {100, 2000, 200, 127, 127, 100, 127, 127, 127, 127};
        PlaySpans x = new PlaySpans(SLIDE);
        for (int what = 0; what < 10; what++) {
            x.bound(what, 7);
            for (int v : new int[] {from[what] - 1, to[what] + 1, LEAST, MOST}) {
                due("4: bound(" + what + ", " + v + ")", x.bound(what, v), BAD);
            }
            due("4: the least of " + what, x.bound(what, from[what]), 7);
            due("4: the most of " + what, x.bound(what, to[what]), from[what]);
            due("4: again of " + what, x.bound(what, 7), to[what]);
        }
        for (int what : new int[] {-1, 10, LEAST, MOST}) {
            due("4: bound(" + what + ", 50)", x.bound(what, 50), BAD);
        }
        PlaySpans y = new PlaySpans(KEYBOARD);
        add(y, 0, 10, 60, 64);
        due("4: states", y.states(0), 7);
        y.bound(LOW, 60);
        y.bound(HIGH, 64);
        due("4: at both edges", y.states(0), 7);
        y.bound(LOW, 61);
        due("4: below LOW", y.states(0), 0);
        due("4: stuck there", y.stuck(), 0);
        y.bound(LOW, 0);
        y.bound(HIGH, 63);
        due("4: above HIGH", y.states(0), 0);
        due("4: no way", y.price(), NONE);
        y.bound(HIGH, 64);
        due("4: as before", y.price(), 0);
    }

    private static void pin() {
        PlaySpans x = new PlaySpans(SLIDE);
        add(x, 0, 10, 58);
        add(x, 100, 10, 60);
        due("5: no event", x.pin(2, 0), BAD);
        due("5: no event", x.pin(-1, 0), BAD);
        due("5: no event", x.pin(LEAST, -1), BAD);
        due("5: below -1", x.pin(0, -2), BAD);
        due("5: above 99", x.pin(0, 100), BAD);
        due("5: refused", x.about(0, 7), NONE);
        due("5: free, then free", x.pin(0, -1), NONE);
        due("5: free, then 1", x.pin(0, 1), NONE);
        due("5: pinned ones", x.told(4), 1);
        dueWay("5: pinned to place 4", x, 1, 0);
        due("5: ways from place 4", x.ways(300), 2);
        due("5: 1, then 99", x.pin(0, 99), 1);
        due("5: no such state", x.price(), NONE);
        due("5: no such state", x.stuck(), 0);
        due("5: no such state", x.ways(300), 0);
        due("5: states stay", x.states(0), 2);
        due("5: 99, then 0", x.pin(0, 0), 99);
        due("5: 0, then free", x.pin(0, -1), 0);
        due("5: free", x.about(0, 7), NONE);
        due("5: free ways", x.ways(300), 4);
        x.pin(1, 2);
        due("5: stuck at the second", x.stuck(), 1);
    }

    private static void keyboardStates() {
        PlaySpans x = new PlaySpans(KEYBOARD);
        addFor(x, RIGHT, 0, 10, 60, 64, 67);
        dueStates("6, 7: right chord", x, 0, new int[] {1, 7, 60}, new int[] {0, 11, 60}, new int[] {1, 13, 60},
                new int[] {0, 19, 60}, new int[] {0, 21, 60}, new int[] {1, 25, 60}, new int[] {1, 26, 58});
        addFor(x, LEFT, 0, 10, 60, 64, 67);
        dueStates("6, 7: left chord", x, 1, new int[] {0, 11, 67}, new int[] {0, 19, 67}, new int[] {0, 21, 67},
                new int[] {1, 22, 69});
        addFor(x, RIGHT, 10, 10, 60, 61);
        dueStates("6, 7: a small step", x, 2, new int[] {0, 3, 60}, new int[] {1, 5, 60}, new int[] {0, 6, 58},
                new int[] {2, 9, 60}, new int[] {1, 10, 58}, new int[] {0, 12, 56}, new int[] {3, 17, 60},
                new int[] {2, 18, 58}, new int[] {1, 20, 56}, new int[] {0, 24, 54});
        addFor(x, RIGHT, 20, 10, 60, 76);
        dueStates("6, 7: as wide as can be", x, 3, new int[] {6, 17, 60});
        addFor(x, RIGHT, 30, 10, 60, 77);
        dueStates("6, 7: too wide", x, 4);
        addFor(x, RIGHT, 40, 10, 0);
        dueStates("6, 7: places below 0", x, 5, new int[] {0, 1, 0}, new int[] {0, 2, -2}, new int[] {0, 4, -4},
                new int[] {0, 8, -6}, new int[] {0, 16, -8});
        addFor(x, LEFT, 40, 10, 127);
        due("7: a place above 127", x.state(6, 4, 2), 135);
        addFor(x, RIGHT, 50, 10, 1);
        due("7: a place of -1", x.state(7, 1, 2), -1);
    }

    private static void stringsStates() {
        PlaySpans x = new PlaySpans(STRINGS);
        add(x, 0, 10, 60, 67);
        dueStates("6, 7: a fifth", x, 0, new int[] {4, 1, 0}, new int[] {2, 2, 0}, new int[] {2, 3, 0},
                new int[] {2, 4, 0});
        add(x, 10, 10, 91);
        dueStates("6, 7: the highest", x, 1, new int[] {2, 11, 3});
        add(x, 20, 10, 92);
        dueStates("6, 7: too high", x, 2);
        add(x, 30, 10, 54);
        dueStates("6, 7: too low", x, 3);
        add(x, 40, 10, 63);
        dueStates("6, 7: on two strings", x, 4, new int[] {1, 0, 1}, new int[] {2, 4, 0}, new int[] {1, 5, 0},
                new int[] {1, 6, 0}, new int[] {1, 7, 0});
        add(x, 50, 10, 84, 91);
        dueStates("6, 7: on the last two strings", x, 5, new int[] {4, 11, 2});
        add(x, 55, 10, 84, 91, 98);
        dueStates("6, 7: no string for the third", x, 6);
        add(x, 60, 10, 55, 63);
        dueStates("6, 7: one open, one stopped", x, 7, new int[] {1, 0, 0});
        for (int s = 6; s < 10; s++) {
            x.bound(s, 60);
        }
        add(x, 70, 10, 60);
        due("6: every position and string", x.states(8), 48);
        due("7: the last of them", x.state(8, 47, 1) * 10 + x.state(8, 47, 2), 113);
    }

    private static void windStates() {
        PlaySpans x = new PlaySpans(WIND);
        x.bound(LUNG, 200);
        add(x, 0, 100, 60);
        add(x, 100, 100, 62);
        add(x, 220, 100, 64);
        dueStates("6, 7: first", x, 0, new int[] {0, 0, 0});
        dueStates("6, 7: as long as the lung", x, 1, new int[] {0, 0, 0}, new int[] {0, 1, 0});
        dueStates("6, 7: the first too long ago", x, 2, new int[] {0, 1, 0}, new int[] {0, 2, 0});
        x.bound(LUNG, 199);
        dueStates("6, 7: longer than the lung", x, 1, new int[] {0, 1, 0});
        x.bound(LUNG, 99);
        dueStates("6, 7: one note too long", x, 1);
        x.bound(LUNG, 300);
        x.bound(LOW, 62);
        dueStates("6, 7: too low", x, 0);
        dueStates("6, 7: after one too low", x, 1, new int[] {0, 0, 0}, new int[] {0, 1, 0});
    }

    private static void slideStates() {
        PlaySpans x = new PlaySpans(SLIDE);
        int[][] notes = {{40}, {41}, {46}, {52}, {58}, {60}, {68}, {74}, {75}, {39}};
        int[][] places = {{6}, {5}, {0}, {1, 6}, {0, 4}, {2, 5}, {0, 2, 4, 6}, {0}, {}, {}};
        for (int i = 0; i < notes.length; i++) {
            add(x, 10 * i, 10, notes[i]);
            int[][] want = new int[places[i].length][];
            for (int k = 0; k < want.length; k++) {
                int place = places[i][k];
                want[k] = new int[] {place == 6 ? 2 : place == 5 ? 1 : 0, place, 0};
            }
            dueStates("6, 7: slide " + notes[i][0], x, i, want);
        }
        x.bound(BASE, 33);
        dueStates("6, 7: another base", x, 0, new int[] {1, 5, 0});
    }

    private static PlaySpans threeBeats() {
        PlaySpans x = new PlaySpans(STICKS);
        add(x, 0, 10, 60);
        add(x, 100, 10, 64);
        add(x, 200, 10, 62);
        return x;
    }

    private static void sticksStates() {
        PlaySpans x = threeBeats();
        dueStates("6, 7: first beat", x, 0, new int[] {0, 0, -1}, new int[] {0, 1, -1});
        dueStates("6, 7: second beat", x, 1, new int[] {0, 0, -1}, new int[] {4, 0, 0}, new int[] {0, 1, -1},
                new int[] {0, 1, 0});
        dueStates("6, 7: third beat", x, 2, new int[] {0, 0, -1}, new int[] {4, 0, 0}, new int[] {0, 0, 1},
                new int[] {0, 1, -1}, new int[] {0, 1, 0}, new int[] {4, 1, 1});
        add(x, 300, 10, 50, 70);
        dueStates("6, 7: both", x, 3, new int[] {0, 2, -1});
        add(x, 400, 10, 71);
        dueStates("6, 7: above both", x, 4, new int[] {4, 0, 3}, new int[] {0, 1, 3});
        add(x, 500, 10, 49);
        dueStates("6, 7: below both", x, 5, new int[] {0, 0, 3}, new int[] {0, 0, 4}, new int[] {4, 1, 3},
                new int[] {4, 1, 4});
        add(x, 600, 10, 49);
        due("7: the same pitch does not cross", x.state(6, 2, 0) + x.state(6, 5, 0), 0);
        PlaySpans y = new PlaySpans(STICKS);
        for (int i = 0; i < 40; i++) {
            add(y, i, 1, 60);
        }
        due("6: forty beats", y.states(39), 80);
        due("7: the last state of all", y.state(39, 79, 2), 38);
    }

    private static void wrongStates() {
        PlaySpans x = threeBeats();
        for (int i : new int[] {-1, 3, 40, LEAST, MOST}) {
            due("6: states(" + i + ")", x.states(i), BAD);
            due("7: state(" + i + ", 0, 0)", x.state(i, 0, 0), BAD);
            due("8: step(" + i + ", 0, 0)", x.step(i, 0, 0), BAD);
            due("10: way(" + i + ")", x.way(i), BAD);
            due("14: about(" + i + ", 0)", x.about(i, 0), BAD);
        }
        for (int k : new int[] {-1, 4, 80, LEAST, MOST}) {
            due("7: state(1, " + k + ", 0)", x.state(1, k, 0), BAD);
            due("8: step(1, " + k + ", 0)", x.step(1, k, 0), BAD);
            due("8: step(0, 0, " + k + ")", x.step(0, 0, k), BAD);
        }
        for (int what : new int[] {-1, 3, LEAST, MOST}) {
            due("7: state(0, 0, " + what + ")", x.state(0, 0, what), BAD);
        }
        due("8: the last one has no next", x.step(2, 0, 0), BAD);
    }

    private static void keyboardSteps() {
        PlaySpans x = new PlaySpans(KEYBOARD);
        addFor(x, RIGHT, 0, 10, 60);
        addFor(x, LEFT, 0, 10, 48);
        addFor(x, RIGHT, 40, 10, 64);
        due("8: thumb and thumb, just in time", x.step(0, 0, 0), 7);
        due("8: thumb and middle finger", x.step(0, 0, 2), 0);
        due("8: middle finger and thumb, too far", x.step(0, 2, 0), NONE);
        due("8: the other chain has no next one", x.step(1, 0, 0), BAD);
        x.bound(MOVE, 11);
        due("8: thumb and thumb, a bit too late", x.step(0, 0, 0), NONE);
        x.bound(MOVE, 0);
        due("8: any way with no MOVE", x.step(0, 4, 0), 12);
        addFor(x, LEFT, 50, 10, 48);
        due("8: the same pitch and finger", x.step(1, 3, 3), 0);
        due("8: the same pitch, another finger", x.step(1, 0, 3), 6);
        addFor(x, RIGHT, 60, 10, 64, 65);
        due("8: one note, then two", x.step(2, 0, 0), 0);
        addFor(x, RIGHT, 70, 10, 65);
        due("8: two notes, then one", x.step(4, 0, 0), 1);
        addFor(x, LEFT, 80, 10, 50);
        due("8: left, a place up", x.step(3, 1, 1), 5);
    }

    private static void stringsSteps() {
        PlaySpans x = new PlaySpans(STRINGS);
        add(x, 0, 10, 63);
        add(x, 40, 10, 63);
        due("8: from position 0 on string 1 to 4 on 0", x.step(0, 0, 1), 9);
        due("8: from position 0 to 5", x.step(0, 0, 2), NONE);
        due("8: from position 4 to 7", x.step(0, 1, 4), 6);
        due("8: staying", x.step(0, 3, 3), 0);
        x.bound(MOVE, 11);
        due("8: just too late", x.step(0, 0, 1), NONE);
    }

    private static void windSteps() {
        PlaySpans x = new PlaySpans(WIND);
        x.bound(LUNG, 200);
        add(x, 0, 100, 60);
        add(x, 100, 100, 62);
        add(x, 220, 30, 64);
        add(x, 250, 30, 64);
        due("8: the same breath", x.step(0, 0, 0), 0);
        due("8: a breath without a rest", x.step(0, 0, 1), 61);
        due("8: another breath, but not a new one", x.step(1, 0, 0), NONE);
        due("8: a breath in a short rest", x.step(1, 0, 1), 21);
        due("8: the second breath goes on", x.step(1, 1, 0), 0);
        due("8: the note is too short for the breath", x.step(2, 0, 2), NONE);
        x.bound(BREATH, 29);
        due("8: the note is just long enough", x.step(2, 0, 2), 59);
        x.bound(BREATH, 20);
        due("8: the rest is just long enough", x.step(1, 0, 1), 1);
        x.bound(BREATH, 0);
        due("8: the rest is longer than the breath", x.step(1, 0, 1), 1);
    }

    private static void slideSteps() {
        PlaySpans x = new PlaySpans(SLIDE);
        add(x, 0, 10, 58);
        add(x, 50, 10, 60);
        due("8: 0 to 2", x.step(0, 0, 0), 2);
        due("8: 0 to 5, just in time", x.step(0, 0, 1), 5);
        due("8: 4 to 5", x.step(0, 1, 1), 1);
        x.bound(MOVE, 11);
        due("8: 0 to 5, too late", x.step(0, 0, 1), NONE);
    }

    private static void sticksSteps() {
        PlaySpans x = threeBeats();
        due("8: the same hand again", x.step(0, 0, 0), 6);
        due("8: the other one never played", x.step(0, 0, 1), NONE);
        due("8: the other one did play", x.step(0, 0, 2), NONE);
        due("8: the other hand for the first time", x.step(0, 0, 3), 0);
        due("8: back to the first hand", x.step(1, 3, 2), 2);
        due("8: the second hand again", x.step(1, 3, 4), 4);
        add(x, 260, 10, 52, 69);
        due("8: both, from its last beats", x.step(2, 2, 0), NONE);
        due("8: both, the right one too late", x.step(2, 4, 0), NONE);
        due("8: both, the right never played", x.step(2, 0, 0), NONE);
        x.bound(MOVE, 8);
        due("8: both, the left from 60 at 0", x.step(2, 4, 0), 15);
        x.bound(MOVE, 6);
        due("8: the right never played, but in time", x.step(2, 0, 0), 10);
        due("8: both, in time", x.step(2, 2, 0), 15);
        add(x, 300, 10, 50, 70);
        due("8: both and both", x.step(3, 0, 0), 3);
        add(x, 340, 10, 49);
        due("8: after both, no 2 more", x.step(4, 0, 0), 1);
    }

    private static void prices() {
        PlaySpans wind = new PlaySpans(WIND);
        wind.bound(LUNG, 200);
        add(wind, 0, 100, 60);
        add(wind, 100, 100, 62);
        add(wind, 220, 100, 64);
        due("9: one breath", wind.price(), 21);
        dueWay("10: one breath", wind, 0, 0, 1);
        due("11: not stuck", wind.stuck(), NONE);
        int[][] ways = {{0, 0}, {20, 0}, {21, 1}, {60, 1}, {61, 2}, {81, 2}, {82, 3}, {300, 3}};
        for (int[] w : ways) {
            due("12: wind ways(" + w[0] + ")", wind.ways(w[0]), w[1]);
        }
        PlaySpans sticks = threeBeats();
        due("9: three beats", sticks.price(), 2);
        dueWay("10: three beats", sticks, 0, 3, 2);
        PlaySpans slide = new PlaySpans(SLIDE);
        add(slide, 0, 10, 58);
        add(slide, 100, 10, 60);
        due("9: three ways cost 2", slide.price(), 2);
        dueWay("10: the first of them", slide, 0, 0);
        due("12: three ways cost 2", slide.ways(2), 3);
        due("12: one costs 6", slide.ways(5) * 10 + slide.ways(6), 34);
        slide.pin(0, 1);
        dueWay("10: the first of two", slide, 1, 0);
        slide.pin(1, 1);
        dueWay("10: both pinned", slide, 1, 1);
        due("9: both pinned", slide.price(), 2);
        slide.bound(MOVE, 100);
        due("9: as quick as can be", slide.price(), 2);
        slide.pin(0, 0);
        due("9: too quick", slide.price(), NONE);
        dueWay("10: none", slide, NONE, NONE);
        due("10: BAD before NONE", slide.way(2), BAD);
    }

    private static void twoChains() {
        PlaySpans x = new PlaySpans(KEYBOARD);
        addFor(x, RIGHT, 0, 10, 60, 64, 67);
        addFor(x, LEFT, 0, 10, 60, 64, 67);
        due("9: nothing to pay", x.price(), 0);
        dueWay("10: the first of each", x, 1, 0);
        due("12: three and three cost nothing", x.ways(0), 9);
        due("12: all", x.ways(2), 28);
        due("12: all but those of 2", x.ways(1), 24);
        x.pin(0, 0);
        due("9: the right one pays", x.price(), 1);
        x.pin(1, 3);
        due("9: both pay", x.price(), 2);
        addFor(x, LEFT, 10, 10, 100);
        addFor(x, RIGHT, 10, 10, 20);
        due("11: the left one first", x.stuck(), 2);
        due("9: no way", x.price(), NONE);
        dueWay("10: no way", x, NONE, NONE, NONE, NONE);
        due("12: no way", x.ways(300), 0);
        x.bound(MOVE, 0);
        due("11: none with no MOVE", x.stuck(), NONE);
        x.pin(3, 77);
        due("11: the right one's pin", x.stuck(), 3);
        x.pin(1, 77);
        due("11: the left one's pin", x.stuck(), 1);
        x.pin(1, -1);
        x.pin(3, -1);
        x.drop();
        due("11: without the right one", x.stuck(), NONE);
        x.bound(HIGH, 99);
        due("11: the last of the left", x.stuck(), 2);
    }

    /** The cheapest STATE of an EVENT may lead no further. */
    private static void deadEnds() {
        PlaySpans x = new PlaySpans(SLIDE);
        add(x, 0, 10, 58);
        add(x, 100, 10, 60);
        add(x, 120, 10, 40);
        due("11: from 5 to 6, not from 2", x.stuck(), NONE);
        dueWay("10: by place 5", x, 1, 1, 0);
        due("9: by place 5", x.price(), 5);
        due("12: by place 5", x.ways(300), 2);
        x.pin(1, 0);
        due("11: from 2 there is no step", x.stuck(), 2);
    }

    private static void manyWays() {
        PlaySpans x = new PlaySpans(KEYBOARD);
        x.bound(MOVE, 0);
        for (int i = 0; i < 9; i++) {
            due("12: ten for each", x.ways(300), power(10, i));
            addFor(x, RIGHT, i * 10, 10, 60, 61);
        }
        due("12: just as many as are told", x.ways(300), 1000000000);
        addFor(x, LEFT, 80, 10, 60);
        due("12: more", x.ways(300), 1000000000);
        x.pin(9, 77);
        due("12: more for one hand, none for the other", x.ways(300), 0);
        PlaySpans y = new PlaySpans(SLIDE);
        y.bound(MOVE, 0);
        for (int i = 0; i < 40; i++) {
            add(y, i * 10, 10, 58);
            due("12: two for each of " + i, y.ways(300), i < 29 ? power(2, i + 1) : 1000000000);
        }
        due("12: those that stay", y.ways(0), 2);
        due("12: those that move once", y.ways(4), 80);
        for (int most : new int[] {-1, 301, LEAST, MOST}) {
            due("12: ways(" + most + ")", y.ways(most), BAD);
        }
    }

    /** As many STATES as there can be, and PRICES far above those that are asked for. */
    private static void widest() {
        PlaySpans strings = new PlaySpans(STRINGS);
        PlaySpans sticks = new PlaySpans(STICKS);
        PlaySpans drums = new PlaySpans(STICKS);
        PlaySpans wind = new PlaySpans(WIND);
        strings.bound(MOVE, 0);
        drums.bound(MOVE, 0);
        wind.bound(LUNG, 2000);
        for (int s = 6; s < 10; s++) {
            strings.bound(s, 60);
        }
        for (int i = 0; i < 40; i++) {
            add(strings, i, 1, 60);
            add(sticks, i, 1, 60);
            add(drums, i, 1, i % 2 == 0 ? 0 : 127);
            add(wind, 100 * i, 50, 60);
        }
        due("12: strings that stay", strings.ways(0), 48);
        due("12: strings", strings.ways(300), 1000000000);
        due("12: sticks in turn", sticks.ways(0), 2);
        due("12: sticks with one repeated", sticks.ways(2), 80);
        due("12: sticks", sticks.ways(300), 1000000000);
        due("9: drums", drums.price(), 0);
        due("12: only the left hand low, the right one high", drums.ways(0), 1);
        due("12: wind with two breaths", wind.ways(1), 40);
        due("12: wind with three breaths", wind.ways(2), 40 + 39 * 38 / 2);
    }

    private static int power(int base, int n) {
        int all = 1;
        for (int i = 0; i < n; i++) {
            all *= base;
        }
        return all;
    }

    private static void told() {
        PlaySpans x = new PlaySpans(KEYBOARD);
        addFor(x, RIGHT, 0, 10, 60);
        addFor(x, LEFT, 0, 10, 60);
        addFor(x, RIGHT, 10, 10, 60);
        x.pin(0, 0);
        x.pin(2, 99);
        int[] want = {3, 1, 2, 0, 2};
        for (int what = 0; what < want.length; what++) {
            due("13: told(" + what + ")", x.told(what), want[what]);
        }
        for (int what : new int[] {-1, 5, LEAST, MOST}) {
            due("13: told(" + what + ")", x.told(what), BAD);
        }
        PlaySpans y = threeBeats();
        due("13: one chain on sticks", y.told(1) * 10 + y.told(2), 30);
    }

    private static void about() {
        PlaySpans x = new PlaySpans(KEYBOARD);
        addFor(x, RIGHT, 7, 11, 60, 64, 67);
        addFor(x, LEFT, 8, 12, 40, 45);
        addFor(x, LEFT, 9, 13, 0);
        x.pin(1, 5);
        int[][] want = {{1, 7, 11, 3, 60, 64, 67, NONE}, {0, 8, 12, 2, 40, 45, -1, 5}, {0, 9, 13, 1, 0, -1, -1, NONE}};
        for (int i = 0; i < want.length; i++) {
            for (int what = 0; what < 8; what++) {
                due("14: about(" + i + ", " + what + ")", x.about(i, what), want[i][what]);
            }
            for (int what : new int[] {-1, 8, LEAST, MOST}) {
                due("14: about(" + i + ", " + what + ")", x.about(i, what), BAD);
            }
        }
    }

    public static void main(String[] args) {
        newObject();
        eventBad();
        eventNot();
        eventFull();
        drop();
        bound();
        pin();
        keyboardStates();
        stringsStates();
        windStates();
        slideStates();
        sticksStates();
        wrongStates();
        keyboardSteps();
        stringsSteps();
        windSteps();
        slideSteps();
        sticksSteps();
        prices();
        twoChains();
        deadEnds();
        manyWays();
        widest();
        told();
        about();
        System.out.println(asked + " answers looked at, " + wrong + " not as due");
        if (wrong != 0) {
            System.exit(1);
        }
    }
}
