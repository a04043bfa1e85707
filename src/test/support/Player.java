/** A PlaySpans that counts its calls, so that no test rests on what the document leaves free. */
final class Player {
    static final int BAD = PlaySpans.BAD, NONE = PlaySpans.NONE, NOT = PlaySpans.NOT, FULL = PlaySpans.FULL;
    static final int KEYBOARD = 0, STRINGS = 1, WIND = 2, SLIDE = 3, STICKS = 4;
    static final int LEFT = 0, RIGHT = 1;
    static final int MOVE = 0, LUNG = 1, BREATH = 2, LOW = 3, HIGH = 4, BASE = 5, OPEN = 6;
    static final int LEAST = Integer.MIN_VALUE, MOST = Integer.MAX_VALUE;
    static final int MOST_CALLS = 512;

    private final PlaySpans inner;
    private int calls = 0;

    Player(int instrument) {
        inner = new PlaySpans(instrument);
    }

    private PlaySpans counted() {
        calls++;
        if (calls > MOST_CALLS) {
            throw new IllegalStateException("the test asks one object more than " + MOST_CALLS + " times");
        }
        return inner;
    }

    int calls() {
        return calls;
    }

    int event(int hand, int time, int length, int p, int q, int r) {
        return counted().event(hand, time, length, p, q, r);
    }

    int drop() {
        return counted().drop();
    }

    int bound(int what, int v) {
        return counted().bound(what, v);
    }

    int pin(int i, int state) {
        return counted().pin(i, state);
    }

    int states(int i) {
        return counted().states(i);
    }

    int state(int i, int k, int what) {
        return counted().state(i, k, what);
    }

    int step(int i, int k, int l) {
        return counted().step(i, k, l);
    }

    int price() {
        return counted().price();
    }

    int way(int i) {
        return counted().way(i);
    }

    int stuck() {
        return counted().stuck();
    }

    int ways(int most) {
        return counted().ways(most);
    }

    int told(int what) {
        return counted().told(what);
    }

    int about(int i, int what) {
        return counted().about(i, what);
    }

    /** The number of a new EVENT of HAND 0, or why it was refused. */
    int play(int time, int length, int... notes) {
        return playBy(0, time, length, notes);
    }

    int playBy(int hand, int time, int length, int... notes) {
        int q = notes.length > 1 ? notes[1] : -1;
        int r = notes.length > 2 ? notes[2] : -1;
        return event(hand, time, length, notes[0], q, r);
    }

    /** Sets a BOUND that is sure to be taken. */
    Player with(int what, int v) {
        Due.holds("bound(" + what + ", " + v + ") is taken", bound(what, v) != BAD);
        return this;
    }

    /** Adds an EVENT of HAND 0 that is sure to be taken. */
    Player add(int time, int length, int... notes) {
        return addBy(0, time, length, notes);
    }

    Player addBy(int hand, int time, int length, int... notes) {
        Due.holds("an event at " + time + " is taken", playBy(hand, time, length, notes) >= 0);
        return this;
    }

    /** The number of the STATE of EVENT i that tells first and second with 1 and 2; NONE. */
    int find(int i, int first, int second) {
        int n = states(i);
        for (int k = 0; k < n; k++) {
            if (state(i, k, 1) == first && state(i, k, 2) == second) {
                return k;
            }
        }
        return NONE;
    }

    /** The STATES of EVENT i are these, each told as {PRICE, what 1, what 2}. */
    void dueStates(String what, int i, int[]... want) {
        Due.is(what + ": states(" + i + ")", states(i), want.length);
        for (int k = 0; k < want.length; k++) {
            for (int w = 0; w < 3; w++) {
                Due.is(what + ": state(" + i + ", " + k + ", " + w + ")", state(i, k, w), want[k][w]);
            }
        }
        Due.is(what + ": state(" + i + ", -1, 0)", state(i, -1, 0), BAD);
        Due.is(what + ": state(" + i + ", " + want.length + ", 0)", state(i, want.length, 0), BAD);
    }

    void dueWay(String what, int... want) {
        for (int i = 0; i < want.length; i++) {
            Due.is(what + ": way(" + i + ")", way(i), want[i]);
        }
    }
}
