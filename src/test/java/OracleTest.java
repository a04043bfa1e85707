import java.math.BigInteger;
import java.util.ArrayList;
import java.util.List;
import java.util.Map;
import java.util.Random;
import java.util.TreeMap;

/**
 * Plays random runs of calls on PlaySpans and on a slow model, written anew from the document's words,
 * and compares every answer. The seeds are fixed, so that every run is the same.
 */
public final class OracleTest {
    private static final int BAD = -1, NONE = -2, NOT = -3, FULL = -4;
    private static final int RUNS = 4000;
    private static int wrong = 0;

    private record Event(int hand, int time, int length, List<Integer> notes) {
        int low() {
            return notes.get(0);
        }

        int high() {
            return notes.get(notes.size() - 1);
        }
    }

    private record State(int price, int a, int b) {
    }

    private record Path(int price, List<Integer> states) {
        boolean betterThan(Path p) {
            if (p == null || price != p.price) {
                return p == null || price < p.price;
            }
            for (int i = 0; i < states.size(); i++) {
                if (!states.get(i).equals(p.states.get(i))) {
                    return states.get(i) < p.states.get(i);
                }
            }
            return false;
        }
    }

    /** The document, told once more: EVENTS, pins and BOUNDS are kept, and STATES until one of these changes. */
    private static final class Model {
        final int instrument;
        final List<Event> events = new ArrayList<>();
        final List<Integer> pins = new ArrayList<>();
        final int[] bounds = {10, 400, 30, 0, 127, 34, 55, 62, 69, 76};
        final Map<Integer, List<State>> lists = new TreeMap<>();

        Model(int instrument) {
            this.instrument = instrument < 0 ? 0 : instrument > 4 ? 4 : instrument;
        }

        int event(int hand, int time, int length, int p, int q, int r) {
            if (hand != 0 && !(hand == 1 && instrument == 0)) return BAD;
            if (time < 0 || time > 100000) return BAD;
            if (length < 1 || length > 1000) return BAD;
            List<Integer> notes = new ArrayList<>();
            notes.add(p);
            if (q != -1) notes.add(q);
            if (r != -1) {
                if (q == -1) return BAD;
                notes.add(r);
            }
            int before = -1;
            for (int n : notes) {
                if (n < 0 || n > 127 || n <= before) return BAD;
                before = n;
            }
            if (notes.size() > new int[] {3, 3, 1, 1, 2}[instrument]) return BAD;
            for (int i = 0; i < events.size(); i++) {
                Event e = events.get(i);
                if (time < e.time) return NOT;
                if (e.hand == hand && time == e.time) return NOT;
                if ((instrument == 2 || instrument == 3) && time < e.time + e.length) return NOT;
            }
            if (events.size() == 40) return FULL;
            lists.clear();
            events.add(new Event(hand, time, length, notes));
            pins.add(NONE);
            return events.size() - 1;
        }

        int drop() {
            if (events.isEmpty()) return NONE;
            lists.clear();
            events.remove(events.size() - 1);
            pins.remove(pins.size() - 1);
            return events.size();
        }

        int bound(int what, int v) {
            int[][] spans = {{0, 100}, {1, 2000}, {0, 200}, {0, 127}, {0, 127}, {0, 100}};
            if (what < 0 || what > 9) return BAD;
            int[] span = what > 5 ? new int[] {0, 127} : spans[what];
            if (v < span[0] || v > span[1]) return BAD;
            int was = bounds[what];
            lists.clear();
            bounds[what] = v;
            return was;
        }

        boolean isEvent(int i) {
            return i >= 0 && i < events.size();
        }

        int pin(int i, int state) {
            if (!isEvent(i) || state < -1 || state > 99) return BAD;
            return pins.set(i, state == -1 ? Integer.valueOf(NONE) : Integer.valueOf(state));
        }

        List<State> list(int i) {
            return lists.computeIfAbsent(i, this::makeList);
        }

        List<State> makeList(int i) {
            List<State> all = new ArrayList<>();
            for (int n : events.get(i).notes) {
                if (n < bounds[3] || n > bounds[4]) return all;
            }
            switch (instrument) {
                case 0 -> keyboard(i, all);
                case 1 -> strings(i, all);
                case 2 -> wind(i, all);
                case 3 -> slide(i, all);
                default -> sticks(i, all);
            }
            return all;
        }

        void keyboard(int i, List<State> all) {
            Event e = events.get(i);
            int n = e.notes.size();
            for (int set = 0; set < 32; set++) {
                List<Integer> fingers = new ArrayList<>();
                for (int f = 1; f <= 5; f++) {
                    if ((set >> (f - 1)) % 2 == 1) {
                        if (e.hand == 1) fingers.add(f); else fingers.add(0, f);
                    }
                }
                if (fingers.size() != n) continue;
                int price = 0;
                boolean can = true;
                for (int m = 1; m < n; m++) {
                    int f = fingers.get(m - 1), g = fingers.get(m);
                    int d = Math.abs(f - g), s = e.notes.get(m) - e.notes.get(m - 1);
                    int ee = f == 1 || g == 1 ? 1 : 0;
                    if (s > 3 * d + 4 * ee) can = false;
                    if (s > 2 * d + 2 * ee) price += s - (2 * d + 2 * ee);
                    if (s < d) price += d - s;
                }
                int place = e.hand == 1 ? e.low() - 2 * (fingers.get(0) - 1) : e.high() + 2 * (fingers.get(n - 1) - 1);
                if (can) all.add(new State(price, set, place));
            }
        }

        void strings(int i, List<State> all) {
            List<Integer> notes = events.get(i).notes;
            for (int position = 0; position <= 11; position++) {
                for (int t = 0; t <= 3; t++) {
                    if (t + notes.size() - 1 > 3) continue;
                    int price = 0;
                    boolean can = true;
                    for (int n = 0; n < notes.size(); n++) {
                        int stop = notes.get(n) - bounds[6 + t + n];
                        if (stop == 0) continue;
                        if (stop < position + 1 || stop > position + 4) can = false;
                        price += stop == position + 4 ? 2 : 1;
                    }
                    if (can) all.add(new State(price, position, t));
                }
            }
        }

        void wind(int i, List<State> all) {
            for (int j = 0; j <= i; j++) {
                int sum = 0;
                for (int m = j; m <= i; m++) sum += events.get(m).length;
                if (sum <= bounds[1]) all.add(new State(0, j, 0));
            }
        }

        void slide(int i, List<State> all) {
            for (int place = 0; place <= 6; place++) {
                int over = events.get(i).low() + place - bounds[5];
                if (List.of(12, 19, 24, 28, 31, 34, 36, 38, 40).contains(over)) {
                    all.add(new State(place == 5 ? 1 : place == 6 ? 2 : 0, place, 0));
                }
            }
        }

        int played(int hand, int i) {
            Event e = events.get(i);
            return hand == 0 ? e.low() : e.high();
        }

        void sticks(int i, List<State> all) {
            if (events.get(i).notes.size() == 2) {
                all.add(new State(0, 2, -1));
                return;
            }
            int own = events.get(i).low();
            for (int hand = 0; hand < 2; hand++) {
                for (int other = -1; other < i; other++) {
                    boolean can = true;
                    for (int m = other + 1; m < i; m++) can &= events.get(m).notes.size() == 1;
                    if (!can) continue;
                    int price = 0;
                    if (other >= 0 && hand == 0 && own > played(1, other)) price = 4;
                    if (other >= 0 && hand == 1 && own < played(0, other)) price = 4;
                    all.add(new State(price, hand, other));
                }
            }
        }

        int next(int i) {
            for (int j = i + 1; j < events.size(); j++) {
                if (events.get(j).hand == events.get(i).hand) return j;
            }
            return -1;
        }

        /** The PRICE of the STEP from a STATE s of i to a STATE u of j, the next EVENT. */
        int stepping(int i, State s, int j, State u) {
            Event e = events.get(i), f = events.get(j);
            int gap = f.time - e.time;
            switch (instrument) {
                case 0: {
                    int far = Math.abs(s.b - u.b);
                    if (far * bounds[0] > gap) return NONE;
                    boolean same = e.notes.size() == 1 && f.notes.size() == 1 && e.low() != f.low() && s.a == u.a;
                    return far + (same ? 3 : 0);
                }
                case 1: {
                    int far = Math.abs(s.a - u.a);
                    return far * bounds[0] > gap ? NONE : 2 * far + Math.abs(s.b - u.b);
                }
                case 2: {
                    if (s.a == u.a) return 0;
                    if (u.a != j) return NONE;
                    int rest = f.time - (e.time + e.length);
                    if (bounds[2] - rest >= e.length) return NONE;
                    return 1 + (rest < bounds[2] ? 2 * (bounds[2] - rest) : 0);
                }
                case 3: {
                    int far = Math.abs(s.a - u.a);
                    return far * bounds[0] > gap ? NONE : far;
                }
                default:
                    return stickStep(i, s, j, u);
            }
        }

        int stickStep(int i, State s, int j, State u) {
            int[] last = {i, i};
            if (s.a != 2) last[1 - s.a] = s.b;
            int sum = 0;
            for (int hand = 0; hand < 2; hand++) {
                if (u.a != 2 && u.a != hand) {
                    if (last[hand] != u.b) return NONE;
                    continue;
                }
                if (last[hand] >= 0) {
                    int far = Math.abs(played(hand, j) - played(hand, last[hand]));
                    if (far * bounds[0] > events.get(j).time - events.get(last[hand]).time) return NONE;
                    sum += far;
                }
                if (s.a == hand && u.a == hand) sum += 2;
            }
            return sum;
        }

        int states(int i) {
            return isEvent(i) ? list(i).size() : BAD;
        }

        int state(int i, int k, int what) {
            if (!isEvent(i) || what < 0 || what > 2) return BAD;
            List<State> all = list(i);
            if (k < 0 || k >= all.size()) return BAD;
            State s = all.get(k);
            return what == 0 ? s.price : what == 1 ? s.a : s.b;
        }

        int step(int i, int k, int l) {
            if (!isEvent(i) || next(i) < 0) return BAD;
            List<State> here = list(i), there = list(next(i));
            if (k < 0 || k >= here.size() || l < 0 || l >= there.size()) return BAD;
            return stepping(i, here.get(k), next(i), there.get(l));
        }

        List<Integer> chain(int hand) {
            List<Integer> all = new ArrayList<>();
            for (int i = 0; i < events.size(); i++) if (events.get(i).hand == hand) all.add(i);
            return all;
        }

        boolean allowed(int i, int k) {
            return pins.get(i) == NONE || pins.get(i) == k;
        }

        /** For each STATE of the last of these EVENTS the best row up to it, or null. */
        List<Path> paths(List<Integer> chain) {
            List<Path> now = null;
            for (int c = 0; c < chain.size(); c++) {
                int i = chain.get(c);
                List<State> here = list(i);
                List<State> there = c == 0 ? null : list(chain.get(c - 1));
                List<Path> then = new ArrayList<>();
                for (int k = 0; k < here.size(); k++) {
                    Path best = null;
                    if (allowed(i, k)) {
                        if (c == 0) {
                            best = new Path(here.get(k).price, List.of(k));
                        } else {
                            for (int m = 0; m < there.size(); m++) {
                                if (now.get(m) == null) continue;
                                int s = stepping(chain.get(c - 1), there.get(m), i, here.get(k));
                                if (s == NONE) continue;
                                int sum = now.get(m).price + s + here.get(k).price;
                                if (best != null && sum > best.price) continue;
                                List<Integer> row = new ArrayList<>(now.get(m).states);
                                row.add(k);
                                Path p = new Path(sum, row);
                                if (p.betterThan(best)) best = p;
                            }
                        }
                    }
                    then.add(best);
                }
                now = then;
            }
            return now;
        }

        Path best(List<Integer> chain) {
            if (chain.isEmpty()) return new Path(0, List.of());
            Path best = null;
            for (Path p : paths(chain)) if (p != null && p.betterThan(best)) best = p;
            return best;
        }

        int price() {
            Path left = best(chain(0)), right = best(chain(1));
            return left == null || right == null ? NONE : left.price + right.price;
        }

        int way(int i) {
            if (!isEvent(i)) return BAD;
            Path left = best(chain(0)), right = best(chain(1));
            if (left == null || right == null) return NONE;
            List<Integer> own = chain(events.get(i).hand);
            return (events.get(i).hand == 0 ? left : right).states.get(own.indexOf(i));
        }

        int stuck() {
            for (int i = 0; i < events.size(); i++) {
                List<Integer> own = chain(events.get(i).hand);
                if (best(own.subList(0, own.indexOf(i) + 1)) == null) return i;
            }
            return NONE;
        }

        Map<Integer, BigInteger> counts(List<Integer> chain) {
            List<Map<Integer, BigInteger>> now = new ArrayList<>();
            if (chain.isEmpty()) now.add(Map.of(0, BigInteger.ONE));
            for (int c = 0; c < chain.size(); c++) {
                int i = chain.get(c);
                List<State> here = list(i);
                List<State> there = c == 0 ? null : list(chain.get(c - 1));
                List<Map<Integer, BigInteger>> then = new ArrayList<>();
                for (int k = 0; k < here.size(); k++) {
                    Map<Integer, BigInteger> sums = new TreeMap<>();
                    if (allowed(i, k) && c == 0) sums.put(here.get(k).price, BigInteger.ONE);
                    if (allowed(i, k) && c > 0) {
                        for (int m = 0; m < there.size(); m++) {
                            int s = stepping(chain.get(c - 1), there.get(m), i, here.get(k));
                            if (s == NONE) continue;
                            int more = s + here.get(k).price;
                            now.get(m).forEach((p, n) -> sums.merge(p + more, n, BigInteger::add));
                        }
                    }
                    then.add(sums);
                }
                now = then;
            }
            Map<Integer, BigInteger> all = new TreeMap<>();
            for (Map<Integer, BigInteger> sums : now) sums.forEach((p, n) -> all.merge(p, n, BigInteger::add));
            return all;
        }

        int ways(int most) {
            if (most < 0 || most > 300) return BAD;
            Map<Integer, BigInteger> left = counts(chain(0)), right = counts(chain(1));
            BigInteger sum = BigInteger.ZERO;
            for (var a : left.entrySet()) {
                for (var b : right.entrySet()) {
                    if (a.getKey() + b.getKey() <= most) sum = sum.add(a.getValue().multiply(b.getValue()));
                }
            }
            return sum.min(BigInteger.valueOf(1000000000)).intValue();
        }

        int told(int what) {
            return switch (what) {
                case 0 -> events.size();
                case 1 -> chain(0).size();
                case 2 -> chain(1).size();
                case 3 -> instrument;
                case 4 -> (int) pins.stream().filter(p -> p != NONE).count();
                default -> BAD;
            };
        }

        int about(int i, int what) {
            if (!isEvent(i) || what < 0 || what > 7) return BAD;
            Event e = events.get(i);
            return switch (what) {
                case 0 -> e.hand;
                case 1 -> e.time;
                case 2 -> e.length;
                case 3 -> e.notes.size();
                case 7 -> pins.get(i);
                default -> what - 4 < e.notes.size() ? e.notes.get(what - 4) : -1;
            };
        }
    }

    /** All WAYS one by one, EVENT after EVENT over both CHAINS: checks that chains may be split. */
    private static final class Enumerator {
        final Model m;
        final List<List<State>> states = new ArrayList<>();
        final int[] chosen;
        final List<Integer> prices = new ArrayList<>();
        Path best = null;

        Enumerator(Model m) {
            this.m = m;
            this.chosen = new int[m.events.size()];
            for (int i = 0; i < m.events.size(); i++) states.add(m.list(i));
        }

        double size() {
            double n = 1;
            for (List<State> s : states) n *= Math.max(1, s.size());
            return n;
        }

        void go(int i, int price) {
            if (i == chosen.length) {
                prices.add(price);
                List<Integer> row = new ArrayList<>();
                for (int k : chosen) row.add(k);
                Path p = new Path(price, row);
                if (p.betterThan(best)) best = p;
                return;
            }
            int before = -1;
            for (int j = 0; j < i; j++) if (m.events.get(j).hand == m.events.get(i).hand) before = j;
            for (int k = 0; k < states.get(i).size(); k++) {
                if (!m.allowed(i, k)) continue;
                int s = before < 0 ? 0
                        : m.stepping(before, states.get(before).get(chosen[before]), i, states.get(i).get(k));
                if (s == NONE) continue;
                chosen[i] = k;
                go(i + 1, price + s + states.get(i).get(k).price);
            }
        }
    }

    private static void due(String call, int got, int want) {
        if (got != want) {
            wrong++;
            if (wrong <= 40) System.out.println(call + " answered " + got + ", due is " + want);
        }
    }

    private static final class Run {
        final Random random;
        final Player x;
        final Model m;
        final int instrument, spread, center, pace, mostEvents;
        final boolean gentle;
        final String name;
        int calls = 0;

        Run(int seed) {
            random = new Random(seed);
            instrument = seed % 5;
            x = new Player(instrument);
            m = new Model(instrument);
            spread = 1 + random.nextInt(30);
            // In gentle runs hardly anything is forbidden, so that long rows have many WAYS.
            gentle = random.nextInt(2) == 0;
            center = gentle ? 57 : random.nextInt(8) == 0 ? random.nextInt(128) : 50 + random.nextInt(30);
            pace = 1 + random.nextInt(120);
            mostEvents = random.nextInt(10) == 0 ? 45 : random.nextInt(6) == 0 ? 16 : 6;
            name = "seed " + seed + " call ";
            if (gentle) {
                int move = random.nextInt(4);
                due(name + "first bound(0, " + move + ")", x.bound(0, move), m.bound(0, move));
            }
        }

        int oneOf(int... all) {
            return all[random.nextInt(all.length)];
        }

        int odd() {
            return oneOf(-3, -2, -1, 0, 1, 2, 3, 4, 5, 7, 8, 9, 10, 40, 99, 100, 127, 128, 300, 301, 1000, 1001,
                    100000, 100001, Integer.MAX_VALUE, Integer.MIN_VALUE);
        }

        int anEvent() {
            return random.nextInt(15) == 0 ? odd() : random.nextInt(m.events.size() + 1);
        }

        int aState(int i) {
            int n = m.isEvent(i) ? m.list(i).size() : 3;
            return random.nextInt(15) == 0 ? odd() : random.nextInt(n + 1);
        }

        void event() {
            int lastTime = m.events.isEmpty() ? 0 : m.events.get(m.events.size() - 1).time;
            int lastEnd = m.events.isEmpty() ? 0 : lastTime + m.events.get(m.events.size() - 1).length;
            int hand = instrument == 0 ? random.nextInt(2) : 0;
            int time = (instrument == 2 || instrument == 3 ? lastEnd : lastTime) + random.nextInt(pace);
            if (random.nextInt(20) == 0) time -= random.nextInt(3);
            int length = random.nextInt(20) == 0 ? 1 + random.nextInt(1000) : 1 + random.nextInt(pace + 5);
            int[] pitch = {center + random.nextInt(spread), -1, -1};
            int most = instrument < 2 ? 3 : instrument == 4 ? 2 : 1;
            int notes = 1 + random.nextInt(gentle && instrument == 1 ? 2 : most);
            if (instrument == 4 && random.nextInt(3) != 0) notes = 1;
            for (int n = 1; n < notes; n++) {
                pitch[n] = pitch[n - 1] + (instrument == 1 ? (gentle ? 6 + random.nextInt(3) : 5 + random.nextInt(5)) : 1 + random.nextInt(9));
            }
            int[] a = {hand, time, length, pitch[0], pitch[1], pitch[2]};
            if (random.nextInt(12) == 0) a[random.nextInt(6)] = odd();
            due(name + calls + " event(" + java.util.Arrays.toString(a) + ")",
                    x.event(a[0], a[1], a[2], a[3], a[4], a[5]), m.event(a[0], a[1], a[2], a[3], a[4], a[5]));
        }

        void bound() {
            int what = random.nextInt(12) == 0 ? odd() : oneOf(0, 0, 1, 2, 3, 4, 5, 6, 7, 8, 9);
            int v = switch (what) {
                case 0 -> random.nextInt(4) == 0 ? random.nextInt(101) : random.nextInt(15);
                case 1 -> 1 + random.nextInt(400);
                case 2 -> random.nextInt(pace + 20);
                case 3 -> random.nextInt(3) == 0 ? center + 3 : 0;
                case 4 -> random.nextInt(3) == 0 ? center + spread : 127;
                case 5 -> 20 + random.nextInt(40);
                default -> what > 5 && what < 10 ? center - 5 + random.nextInt(20) : odd();
            };
            if (random.nextInt(12) == 0) v = odd();
            if (gentle && what == 0) v = random.nextInt(4);
            if (gentle && (what == 3 || what == 4 || what > 5)) return;
            due(name + calls + " bound(" + what + ", " + v + ")", x.bound(what, v), m.bound(what, v));
        }

        void pin() {
            int i = anEvent(), state = random.nextInt(gentle ? 6 : 2) != 0 ? -1 : aState(i);
            due(name + calls + " pin(" + i + ", " + state + ")", x.pin(i, state), m.pin(i, state));
        }

        void look() {
            int i = anEvent(), k = aState(i), l = aState(m.isEvent(i) ? m.next(i) : -1);
            int what = random.nextInt(10) == 0 ? odd() : random.nextInt(9);
            due(name + calls + " states(" + i + ")", x.states(i), m.states(i));
            due(name + calls + " state(" + i + ", " + k + ", " + what + ")", x.state(i, k, what), m.state(i, k, what));
            due(name + calls + " state(" + i + ", " + k + ", 2)", x.state(i, k, 2), m.state(i, k, 2));
            due(name + calls + " step(" + i + ", " + k + ", " + l + ")", x.step(i, k, l), m.step(i, k, l));
            due(name + calls + " about(" + i + ", " + what + ")", x.about(i, what), m.about(i, what));
            due(name + calls + " told(" + what + ")", x.told(what), m.told(what));
        }

        void whole() {
            int i = anEvent();
            int most = random.nextInt(10) == 0 ? odd() : random.nextInt(301);
            due(name + calls + " price()", x.price(), m.price());
            due(name + calls + " way(" + i + ")", x.way(i), m.way(i));
            due(name + calls + " stuck()", x.stuck(), m.stuck());
            due(name + calls + " ways(" + most + ")", x.ways(most), m.ways(most));
        }

        boolean mayAsk(int more) {
            return x.calls() + more <= Player.MOST_CALLS;
        }

        /** As much as the object may be asked, beginning with any EVENT. */
        void everything() {
            int size = m.events.size();
            int first = size == 0 ? 0 : random.nextInt(size);
            for (int n = 0; n < size && mayAsk(10); n++) {
                int i = (first + n) % size;
                due(name + "end way(" + i + ")", x.way(i), m.way(i));
                due(name + "end states(" + i + ")", x.states(i), m.states(i));
                for (int what = 0; what < 8; what++) {
                    due(name + "end about(" + i + ", " + what + ")", x.about(i, what), m.about(i, what));
                }
                everyState(i);
            }
        }

        void everyState(int i) {
            List<State> here = m.list(i);
            List<State> there = m.next(i) < 0 ? List.of() : m.list(m.next(i));
            for (int k = 0; k < here.size() && mayAsk(3); k++) {
                for (int what = 0; what < 3; what++) {
                    due(name + "end state(" + i + ", " + k + ", " + what + ")", x.state(i, k, what), m.state(i, k, what));
                }
                for (int l = 0; l < there.size() && mayAsk(1); l++) {
                    due(name + "end step(" + i + ", " + k + ", " + l + ")", x.step(i, k, l),
                            m.stepping(i, here.get(k), m.next(i), there.get(l)));
                }
            }
        }

        void enumerate() {
            Enumerator e = new Enumerator(m);
            if (e.size() > 50000) return;
            e.go(0, 0);
            int most = random.nextInt(301), n = 0;
            for (int p : e.prices) if (p <= most) n++;
            due(name + "all ways(" + most + ")", x.ways(most), n);
            due(name + "all price()", x.price(), e.best == null ? NONE : e.best.price);
            for (int i = 0; i < m.events.size(); i++) {
                due(name + "all way(" + i + ")", x.way(i), e.best == null ? NONE : e.best.states.get(i));
            }
        }

        void play() {
            // The rest of what may be asked is for the end.
            for (calls = 0; calls < 90 && mayAsk(112); calls++) {
                int die = random.nextInt(20);
                if (m.events.size() < mostEvents && die < 9) event();
                else if (die < 10) due(name + calls + " drop()", x.drop(), m.drop());
                else if (die < 12) bound();
                else if (die < 14) pin();
                else if (die < 18) look();
                else whole();
            }
            whole();
            enumerate();
            everything();
        }
    }

    public static void main(String[] args) {
        int first = args.length > 0 ? Integer.parseInt(args[0]) : 0;
        int runs = args.length > 1 ? Integer.parseInt(args[1]) : RUNS;
        for (int seed = first; seed < first + runs; seed++) new Run(seed).play();
        System.out.println(wrong == 0 ? "all answers are as the model's" : wrong + " answers are not as the model's");
        if (wrong != 0) System.exit(1);
    }
}
