/**
 * Whether a row of notes can be played on an instrument, and how with the least pains.
 * The words in capitals are those of the document.
 */
public final class PlaySpans {
    public static final int BAD = -1, NONE = -2, NOT = -3, FULL = -4;

    private static final int KEYBOARD = 0, STRINGS = 1, WIND = 2, SLIDE = 3, STICKS = 4;
    private static final int MOST_EVENTS = 40, MOST_NOTES = 3;
    private static final int LAST_TIME = 100000, LONGEST = 1000, TOP_PITCH = 127;
    private static final int LAST_PIN = 99, LAST_PRICE = 300, MANY = 1000000000;
    private static final int MOVE = 0, LUNG = 1, BREATH = 2, LOW = 3, HIGH = 4, BASE = 5, OPEN = 6;

    private static final int[] BOUND_FROM = {0, 1, 0, 0, 0, 0, 0, 0, 0, 0};
    private static final int[] BOUND_TO = {100, 2000, 200, 127, 127, 100, 127, 127, 127, 127};
    private static final int[] BOUND_FIRST = {10, 400, 30, 0, 127, 34, 55, 62, 69, 76};
    private static final int[] NOTES_TO = {3, 3, 1, 1, 2};

    private final int kind;
    private final int[] bounds;
    private final Score score;
    private final States table;
    private final Instrument instrument;
    private final Search search;
    private final Counter counter;

    public PlaySpans(int instrument) {
        this.kind = Math.max(KEYBOARD, Math.min(STICKS, instrument));
        this.bounds = BOUND_FIRST.clone();
        this.score = new Score();
        this.table = new States(mostStates(kind));
        this.instrument = makeInstrument(kind, score, bounds, table);
        this.search = new Search(score, table, this.instrument);
        this.counter = new Counter(score, table, this.instrument);
    }

    public int event(int hand, int time, int length, int p, int q, int r) {
        if (hand < 0 || hand > (kind == KEYBOARD ? 1 : 0)) {
            return BAD;
        }
        if (time < 0 || time > LAST_TIME || length < 1 || length > LONGEST) {
            return BAD;
        }
        if (!areNotes(p, q, r) || countNotes(q, r) > NOTES_TO[kind]) {
            return BAD;
        }
        if (!score.fits(hand, time, kind == WIND || kind == SLIDE)) {
            return NOT;
        }
        if (score.size >= MOST_EVENTS) {
            return FULL;
        }
        int i = score.append(hand, time, length);
        score.setNotes(i, countNotes(q, r), p, q, r);
        instrument.refresh(i);
        search.forget();
        return i;
    }

    public int drop() {
        if (score.size == 0) {
            return NONE;
        }
        score.removeLast();
        search.forget();
        return score.size;
    }

    public int bound(int what, int v) {
        if (what < 0 || what >= bounds.length || v < BOUND_FROM[what] || v > BOUND_TO[what]) {
            return BAD;
        }
        int was = bounds[what];
        bounds[what] = v;
        if (was != v) {
            for (int i = 0; i < score.size; i++) {
                instrument.refresh(i);
            }
            search.forget();
        }
        return was;
    }

    public int pin(int i, int state) {
        if (!score.has(i) || state < -1 || state > LAST_PIN) {
            return BAD;
        }
        int was = score.pinned[i];
        score.pinned[i] = state < 0 ? NONE : state;
        search.forget();
        return was;
    }

    public int states(int i) {
        return score.has(i) ? table.count[i] : BAD;
    }

    public int state(int i, int k, int what) {
        if (!hasState(i, k)) {
            return BAD;
        }
        int at = table.indexOf(i, k);
        switch (what) {
            case 0:
                return table.cost[at];
            case 1:
                return table.first[at];
            case 2:
                return table.second[at];
            default:
                return BAD;
        }
    }

    public int step(int i, int k, int l) {
        if (!hasState(i, k)) {
            return BAD;
        }
        int next = score.after[i];
        if (next < 0 || !hasState(next, l)) {
            return BAD;
        }
        return instrument.stepCost(i, k, next, l);
    }

    public int price() {
        search.solve();
        return search.total;
    }

    public int way(int i) {
        if (!score.has(i)) {
            return BAD;
        }
        search.solve();
        return search.total < 0 ? NONE : search.chosen[i];
    }

    public int stuck() {
        search.solve();
        return search.blocked;
    }

    public int ways(int most) {
        if (most < 0 || most > LAST_PRICE) {
            return BAD;
        }
        counter.countChain(0, most);
        counter.countChain(1, most);
        return counter.countPairs(most);
    }

    public int told(int what) {
        switch (what) {
            case 0:
                return score.size;
            case 1:
                return score.countOfHand(0);
            case 2:
                return score.countOfHand(1);
            case 3:
                return kind;
            case 4:
                return score.countPinned();
            default:
                return BAD;
        }
    }

    public int about(int i, int what) {
        if (!score.has(i)) {
            return BAD;
        }
        switch (what) {
            case 0:
                return score.hand[i];
            case 1:
                return score.time[i];
            case 2:
                return score.length[i];
            case 3:
                return score.notes[i];
            case 4:
            case 5:
            case 6:
                return score.pitchOf(i, what - 4);
            case 7:
                return score.pinned[i];
            default:
                return BAD;
        }
    }

    private boolean hasState(int i, int k) {
        return score.has(i) && k >= 0 && k < table.count[i];
    }

    private static boolean areNotes(int p, int q, int r) {
        if (p < 0 || p > TOP_PITCH) {
            return false;
        }
        if (q == -1) {
            return r == -1;
        }
        if (q <= p || q > TOP_PITCH) {
            return false;
        }
        return r == -1 || (r > q && r <= TOP_PITCH);
    }

    private static int countNotes(int q, int r) {
        if (q == -1) {
            return 1;
        }
        return r == -1 ? 2 : 3;
    }

    /** The most STATES that one EVENT can have, so that no row is made longer than it need be. */
    private static int mostStates(int kind) {
        switch (kind) {
            case KEYBOARD:
                return 10;
            case STRINGS:
                return 48;
            case WIND:
                return MOST_EVENTS;
            case SLIDE:
                return 7;
            default:
                return 2 * MOST_EVENTS;
        }
    }

    private static Instrument makeInstrument(int kind, Score score, int[] bounds, States table) {
        switch (kind) {
            case KEYBOARD:
                return new Keyboard(score, bounds, table);
            case STRINGS:
                return new Strings(score, bounds, table);
            case WIND:
                return new Wind(score, bounds, table);
            case SLIDE:
                return new Slide(score, bounds, table);
            default:
                return new Sticks(score, bounds, table);
        }
    }

    /** The EVENTS in the order they came, and how they are linked into CHAINS (-1: no link). */
    private static final class Score {
        int size = 0;
        final int[] hand = new int[MOST_EVENTS];
        final int[] time = new int[MOST_EVENTS];
        final int[] length = new int[MOST_EVENTS];
        final int[] notes = new int[MOST_EVENTS];
        final int[] pitches = new int[MOST_EVENTS * MOST_NOTES];
        final int[] pinned = new int[MOST_EVENTS];
        final int[] before = new int[MOST_EVENTS];
        final int[] after = new int[MOST_EVENTS];
        final int[] lastOfHand = {-1, -1};

        boolean has(int i) {
            return i >= 0 && i < size;
        }

        boolean fits(int newHand, int newTime, boolean waitsForEnd) {
            if (size > 0 && newTime < time[size - 1]) {
                return false;
            }
            int last = lastOfHand[newHand];
            if (last < 0) {
                return true;
            }
            return newTime > time[last] && !(waitsForEnd && newTime < time[last] + length[last]);
        }

        int append(int newHand, int newTime, int newLength) {
            int i = size;
            int last = lastOfHand[newHand];
            hand[i] = newHand;
            time[i] = newTime;
            length[i] = newLength;
            pinned[i] = NONE;
            before[i] = last;
            after[i] = -1;
            if (last >= 0) {
                after[last] = i;
            }
            lastOfHand[newHand] = i;
            size = i + 1;
            return i;
        }

        void setNotes(int i, int count, int p, int q, int r) {
            notes[i] = count;
            pitches[i * MOST_NOTES] = p;
            pitches[i * MOST_NOTES + 1] = q;
            pitches[i * MOST_NOTES + 2] = r;
        }

        void removeLast() {
            int i = size - 1;
            int last = before[i];
            if (last >= 0) {
                after[last] = -1;
            }
            lastOfHand[hand[i]] = last;
            size = i;
        }

        int pitchOf(int i, int note) {
            return pitches[i * MOST_NOTES + note];
        }

        int highestOf(int i) {
            return pitchOf(i, notes[i] - 1);
        }

        int countOfHand(int whose) {
            int n = 0;
            for (int i = 0; i < size; i++) {
                if (hand[i] == whose) {
                    n++;
                }
            }
            return n;
        }

        int countPinned() {
            int n = 0;
            for (int i = 0; i < size; i++) {
                if (pinned[i] != NONE) {
                    n++;
                }
            }
            return n;
        }

        boolean allows(int i, int k) {
            return pinned[i] == NONE || pinned[i] == k;
        }
    }

    /** The STATES of all EVENTS; first and second are what state() tells with 1 and 2. */
    private static final class States {
        final int width;
        final int[] count = new int[MOST_EVENTS];
        final int[] cost;
        final int[] first;
        final int[] second;

        States(int width) {
            this.width = width;
            this.cost = new int[MOST_EVENTS * width];
            this.first = new int[MOST_EVENTS * width];
            this.second = new int[MOST_EVENTS * width];
        }

        int indexOf(int i, int k) {
            return i * width + k;
        }

        void add(int i, int itsCost, int itsFirst, int itsSecond) {
            if (count[i] >= width) {
                return;
            }
            int at = indexOf(i, count[i]);
            cost[at] = itsCost;
            first[at] = itsFirst;
            second[at] = itsSecond;
            count[i]++;
        }
    }

    /** What the five INSTRUMENTS have in common: how STATES are listed and what a STEP costs. */
    private abstract static class Instrument {
        final Score score;
        final int[] bounds;
        final States table;

        Instrument(Score score, int[] bounds, States table) {
            this.score = score;
            this.bounds = bounds;
            this.table = table;
        }

        /** Adds the STATES of EVENT i, in order; it looks at i and the EVENTS before it only. */
        abstract void list(int i);

        /** The PRICE of the STEP from STATE k of EVENT i to STATE l of its next one, or NONE. */
        abstract int stepCost(int i, int k, int next, int l);

        final void refresh(int i) {
            table.count[i] = 0;
            // NOTES rise, so the first and the last one tell for all.
            if (score.pitchOf(i, 0) >= bounds[LOW] && score.highestOf(i) <= bounds[HIGH]) {
                list(i);
            }
        }

        final boolean inTime(int wayLong, int from, int to) {
            return wayLong * bounds[MOVE] <= score.time[to] - score.time[from];
        }
    }

    /** STATES: first is the FINGERS' bits, second the PLACE. */
    private static final class Keyboard extends Instrument {
        private static final int LEFT = 0, FINGER_SETS = 32;

        Keyboard(Score score, int[] bounds, States table) {
            super(score, bounds, table);
        }

        void list(int i) {
            for (int set = 1; set < FINGER_SETS; set++) {
                if (Integer.bitCount(set) == score.notes[i]) {
                    int strain = strainOf(i, set);
                    if (strain != NONE) {
                        table.add(i, strain, set, placeOf(i, set));
                    }
                }
            }
        }

        int stepCost(int i, int k, int next, int l) {
            int from = table.indexOf(i, k);
            int to = table.indexOf(next, l);
            int wayLong = Math.abs(table.second[from] - table.second[to]);
            if (!inTime(wayLong, i, next)) {
                return NONE;
            }
            boolean single = score.notes[i] == 1 && score.notes[next] == 1;
            boolean hops = single && score.pitchOf(i, 0) != score.pitchOf(next, 0)
                    && table.first[from] == table.first[to];
            return hops ? wayLong + 3 : wayLong;
        }

        private int strainOf(int i, int set) {
            int sum = 0;
            int rest = set;
            for (int n = 0; n + 1 < score.notes[i]; n++) {
                int finger = lowestFinger(rest);
                rest &= rest - 1;
                int d = lowestFinger(rest) - finger;
                int s = intervalOf(i, n);
                int e = finger == 1 ? 1 : 0;
                if (s > 3 * d + 4 * e) {
                    return NONE;
                }
                sum += Math.max(0, s - 2 * d - 2 * e) + Math.max(0, d - s);
            }
            return sum;
        }

        /** The n-th interval in the order of the FINGERS: LEFT begins with the highest NOTE. */
        private int intervalOf(int i, int n) {
            int lower = score.hand[i] == LEFT ? score.notes[i] - 2 - n : n;
            return score.pitchOf(i, lower + 1) - score.pitchOf(i, lower);
        }

        private int placeOf(int i, int set) {
            int aside = 2 * (lowestFinger(set) - 1);
            return score.hand[i] == LEFT ? score.highestOf(i) + aside : score.pitchOf(i, 0) - aside;
        }

        private static int lowestFinger(int set) {
            return Integer.numberOfTrailingZeros(set) + 1;
        }
    }

    /** STATES: first is the POSITION, second the lowest STRING. */
    private static final class Strings extends Instrument {
        private static final int POSITIONS = 12, STRING_COUNT = 4, REACH = 4;

        Strings(Score score, int[] bounds, States table) {
            super(score, bounds, table);
        }

        void list(int i) {
            for (int position = 0; position < POSITIONS; position++) {
                for (int t = 0; t + score.notes[i] <= STRING_COUNT; t++) {
                    int strain = strainOf(i, position, t);
                    if (strain != NONE) {
                        table.add(i, strain, position, t);
                    }
                }
            }
        }

        int stepCost(int i, int k, int next, int l) {
            int from = table.indexOf(i, k);
            int to = table.indexOf(next, l);
            int wayLong = Math.abs(table.first[from] - table.first[to]);
            if (!inTime(wayLong, i, next)) {
                return NONE;
            }
            return 2 * wayLong + Math.abs(table.second[from] - table.second[to]);
        }

        private int strainOf(int i, int position, int t) {
            int sum = 0;
            for (int n = 0; n < score.notes[i]; n++) {
                int stop = score.pitchOf(i, n) - bounds[OPEN + t + n];
                if (stop != 0) {
                    int finger = stop - position;
                    if (finger < 1 || finger > REACH) {
                        return NONE;
                    }
                    sum += finger == REACH ? 2 : 1;
                }
            }
            return sum;
        }
    }

    /** STATES: first is the EVENT with which the BREATH began, second always 0. */
    private static final class Wind extends Instrument {
        Wind(Score score, int[] bounds, States table) {
            super(score, bounds, table);
        }

        void list(int i) {
            int sum = 0;
            int earliest = i + 1;
            for (int j = i; j >= 0; j--) {
                sum += score.length[j];
                if (sum <= bounds[LUNG]) {
                    earliest = j;
                }
            }
            for (int j = earliest; j <= i; j++) {
                table.add(i, 0, j, 0);
            }
        }

        int stepCost(int i, int k, int next, int l) {
            int began = table.first[table.indexOf(next, l)];
            if (began == table.first[table.indexOf(i, k)]) {
                return 0;
            }
            if (began != next) {
                return NONE;
            }
            int rest = score.time[next] - score.time[i] - score.length[i];
            int lacking = bounds[BREATH] - rest;
            return lacking >= score.length[i] ? NONE : 1 + 2 * Math.max(0, lacking);
        }
    }

    /** STATES: first is the PLACE, second always 0. */
    private static final class Slide extends Instrument {
        private static final int PLACES = 7;
        private static final int[] PARTIALS = {12, 19, 24, 28, 31, 34, 36, 38, 40};

        Slide(Score score, int[] bounds, States table) {
            super(score, bounds, table);
        }

        void list(int i) {
            for (int place = 0; place < PLACES; place++) {
                if (sounds(score.pitchOf(i, 0) + place - bounds[BASE])) {
                    table.add(i, Math.max(0, place - 4), place, 0);
                }
            }
        }

        int stepCost(int i, int k, int next, int l) {
            int from = table.first[table.indexOf(i, k)];
            int to = table.first[table.indexOf(next, l)];
            int wayLong = Math.abs(from - to);
            return inTime(wayLong, i, next) ? wayLong : NONE;
        }

        private static boolean sounds(int aboveBase) {
            for (int partial : PARTIALS) {
                if (partial == aboveBase) {
                    return true;
                }
            }
            return false;
        }
    }

    /** STATES: first is the HAND (2: both), second OTHER. */
    private static final class Sticks extends Instrument {
        private static final int BOTH = 2, NEVER = -1, CROSSED = 4, REPEATED = 2;

        Sticks(Score score, int[] bounds, States table) {
            super(score, bounds, table);
        }

        void list(int i) {
            if (score.notes[i] == 2) {
                table.add(i, 0, BOTH, NEVER);
                return;
            }
            // OTHER goes no further back than to the last EVENT in which both HANDS played.
            int earliest = lastPair(i);
            for (int h = 0; h < 2; h++) {
                for (int other = earliest; other < i; other++) {
                    table.add(i, crosses(i, h, other) ? CROSSED : 0, h, other);
                }
            }
        }

        int stepCost(int i, int k, int next, int l) {
            int from = table.indexOf(i, k);
            if (score.notes[next] == 2) {
                int left = moveCost(0, lastPlayed(i, from, 0), next);
                int right = moveCost(1, lastPlayed(i, from, 1), next);
                return left == NONE || right == NONE ? NONE : left + right;
            }
            int to = table.indexOf(next, l);
            int h = table.first[to];
            if (lastPlayed(i, from, 1 - h) != table.second[to]) {
                return NONE;
            }
            int move = moveCost(h, lastPlayed(i, from, h), next);
            return move != NONE && table.first[from] == h ? move + REPEATED : move;
        }

        private int lastPair(int i) {
            for (int j = i - 1; j >= 0; j--) {
                if (score.notes[j] == 2) {
                    return j;
                }
            }
            return NEVER;
        }

        private boolean crosses(int i, int h, int other) {
            if (other == NEVER) {
                return false;
            }
            int own = score.pitchOf(i, 0);
            int its = pitchBy(1 - h, other);
            return h == 0 ? own > its : own < its;
        }

        /** The EVENT in which HAND h played last, once EVENT i was played by the STATE at at. */
        private int lastPlayed(int i, int at, int h) {
            int playing = table.first[at];
            return playing == BOTH || playing == h ? i : table.second[at];
        }

        private int moveCost(int h, int last, int next) {
            if (last == NEVER) {
                return 0;
            }
            int wayLong = Math.abs(pitchBy(h, next) - pitchBy(h, last));
            return inTime(wayLong, last, next) ? wayLong : NONE;
        }

        private int pitchBy(int h, int i) {
            return score.pitches[i * MOST_NOTES + (score.notes[i] == 2 ? h : 0)];
        }
    }

    /**
     * Finds THE WAY. CHAINS don't touch one another, so the cheapest and first row of each of them
     * makes the cheapest and first of all.
     */
    private static final class Search {
        private final Score score;
        private final States table;
        private final Instrument instrument;
        private final boolean[] reached;
        private final int[] toEnd;
        private final int[] bestNext;
        private boolean solved = false;
        final int[] chosen = new int[MOST_EVENTS];
        int total = 0;
        int blocked = NONE;

        Search(Score score, States table, Instrument instrument) {
            this.score = score;
            this.table = table;
            this.instrument = instrument;
            this.reached = new boolean[MOST_EVENTS * table.width];
            this.toEnd = new int[MOST_EVENTS * table.width];
            this.bestNext = new int[MOST_EVENTS * table.width];
        }

        void forget() {
            solved = false;
        }

        void solve() {
            if (solved) {
                return;
            }
            solved = true;
            blocked = findBlocked();
            if (blocked != NONE) {
                total = NONE;
                return;
            }
            for (int i = score.size - 1; i >= 0; i--) {
                weigh(i);
            }
            total = 0;
            for (int i = 0; i < score.size; i++) {
                choose(i);
            }
        }

        private int findBlocked() {
            for (int i = 0; i < score.size; i++) {
                boolean any = false;
                for (int k = 0; k < table.count[i]; k++) {
                    boolean can = score.allows(i, k) && canCome(i, k);
                    reached[table.indexOf(i, k)] = can;
                    any = any || can;
                }
                if (!any) {
                    return i;
                }
            }
            return NONE;
        }

        private boolean canCome(int i, int k) {
            int last = score.before[i];
            if (last < 0) {
                return true;
            }
            for (int from = 0; from < table.count[last]; from++) {
                if (reached[table.indexOf(last, from)]
                        && instrument.stepCost(last, from, i, k) != NONE) {
                    return true;
                }
            }
            return false;
        }

        /** Tells toEnd of each STATE of EVENT i: the least PRICE from it to the CHAIN's end. */
        private void weigh(int i) {
            for (int k = 0; k < table.count[i]; k++) {
                int at = table.indexOf(i, k);
                int onward = reached[at] ? goOn(i, k) : NONE;
                toEnd[at] = onward == NONE ? NONE : table.cost[at] + onward;
            }
        }

        /** The least PRICE of all behind STATE k of EVENT i; bestNext is the first that has it. */
        private int goOn(int i, int k) {
            int next = score.after[i];
            if (next < 0) {
                return 0;
            }
            int least = NONE;
            for (int l = 0; l < table.count[next]; l++) {
                int onward = toEnd[table.indexOf(next, l)];
                int stepping = onward == NONE ? NONE : instrument.stepCost(i, k, next, l);
                if (stepping != NONE && (least == NONE || stepping + onward < least)) {
                    least = stepping + onward;
                    bestNext[table.indexOf(i, k)] = l;
                }
            }
            return least;
        }

        private void choose(int i) {
            int last = score.before[i];
            if (last >= 0) {
                chosen[i] = bestNext[table.indexOf(last, chosen[last])];
                return;
            }
            int least = NONE;
            for (int k = 0; k < table.count[i]; k++) {
                int sum = toEnd[table.indexOf(i, k)];
                if (sum != NONE && (least == NONE || sum < least)) {
                    least = sum;
                    chosen[i] = k;
                }
            }
            total += least;
        }
    }

    /** Counts WAYS by their PRICE; MANY stands for itself and for all above it. */
    private static final class Counter {
        private static final int STRIDE = LAST_PRICE + 1;

        private final Score score;
        private final States table;
        private final Instrument instrument;
        private final int[] chainSums = new int[2 * STRIDE];
        private int[] current;
        private int[] coming;
        private int top = 0;

        Counter(Score score, States table, Instrument instrument) {
            this.score = score;
            this.table = table;
            this.instrument = instrument;
            this.current = new int[table.width * STRIDE];
            this.coming = new int[table.width * STRIDE];
        }

        /** Tells in chainSums how many rows of a HAND's CHAIN have each PRICE up to most. */
        void countChain(int hand, int most) {
            int last = -1;
            for (int i = 0; i < score.size; i++) {
                if (score.hand[i] == hand) {
                    countEvent(i, most);
                    last = i;
                }
            }
            clearRow(chainSums, hand * STRIDE, most);
            if (last < 0) {
                chainSums[hand * STRIDE] = 1;
                return;
            }
            for (int k = 0; k < table.count[last]; k++) {
                addRow(current, k * STRIDE, chainSums, hand * STRIDE, Math.min(top, most));
            }
        }

        /** How many pairs of rows, one of each CHAIN, cost no more than most together. */
        int countPairs(int most) {
            long all = 0;
            int others = 0;
            for (int left = most; left >= 0; left--) {
                others = plus(others, chainSums[STRIDE + most - left]);
                all = Math.min(MANY, all + (long) chainSums[left] * others);
            }
            return (int) all;
        }

        private void countEvent(int i, int most) {
            int highest = 0;
            for (int k = 0; k < table.count[i]; k++) {
                clearRow(coming, k * STRIDE, most);
                if (score.allows(i, k)) {
                    highest = Math.max(highest, countState(i, k, most));
                }
            }
            int[] swap = current;
            current = coming;
            coming = swap;
            top = highest;
        }

        /** Counts the rows that end in STATE k of EVENT i; none of them costs more than it answers. */
        private int countState(int i, int k, int most) {
            int own = table.cost[table.indexOf(i, k)];
            int last = score.before[i];
            if (last < 0) {
                if (own <= most) {
                    coming[k * STRIDE + own] = 1;
                }
                return own;
            }
            int highest = 0;
            for (int from = 0; from < table.count[last]; from++) {
                int stepping = instrument.stepCost(last, from, i, k);
                if (stepping != NONE) {
                    int more = own + stepping;
                    int end = Math.min(top, most - more);
                    addRow(current, from * STRIDE, coming, k * STRIDE + more, end);
                    highest = Math.max(highest, more + end);
                }
            }
            return highest;
        }

        private static void clearRow(int[] row, int at, int last) {
            for (int n = 0; n <= last; n++) {
                row[at + n] = 0;
            }
        }

        private static void addRow(int[] from, int fromAt, int[] to, int toAt, int last) {
            for (int n = 0; n <= last; n++) {
                int more = from[fromAt + n];
                if (more != 0) {
                    to[toAt + n] = plus(to[toAt + n], more);
                }
            }
        }

        // Twice MANY still lies within an int.
        private static int plus(int a, int b) {
            return Math.min(MANY, a + b);
        }
    }
}
