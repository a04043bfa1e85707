import java.util.Arrays;
import java.util.Random;

/**
 * WIND and STICKS played out as a player would: every choice of places to breathe, every choice of a hand for each
 * single note. No row of STATES and STEPS is followed here, so a fault in how they hang together shows. The seeds are
 * fixed, so that every run is the same.
 */
public final class PlayedOutTest {
    private static final int RUNS = 3000, MOST_EVENTS = 8;

    /** A row of EVENTS, and what all its choices came to. */
    private abstract static class Row {
        final Random random;
        final Player x;
        final int size, move, lung, breath, low, high;
        final int[] time, length, notes, pitch, pin;
        final String name;
        int reach = 0, least = Player.NONE;
        int[] best = null;
        final int[] priced = new int[301];

        Row(int instrument, int seed) {
            random = new Random(seed);
            name = "instrument " + instrument + " seed " + seed + ": ";
            x = new Player(instrument);
            size = random.nextInt(MOST_EVENTS + 1);
            move = random.nextInt(8);
            lung = 20 + random.nextInt(150);
            breath = random.nextInt(60);
            low = random.nextInt(8) == 0 ? 52 : 0;
            high = random.nextInt(8) == 0 ? 66 : 127;
            time = new int[size];
            length = new int[size];
            notes = new int[size];
            pitch = new int[2 * size];
            pin = new int[size];
            x.with(Player.MOVE, move).with(Player.LUNG, lung).with(Player.BREATH, breath);
            x.with(Player.LOW, low).with(Player.HIGH, high);
        }

        /** Whether these bits, one for each EVENT, are a choice; else another row of bits means the same. */
        abstract boolean isChoice(int choice);

        /** Plays as far as one choice can be played. */
        abstract void tryOut(int choice);

        void fill(int mostNotes) {
            int now = 0;
            for (int i = 0; i < size; i++) {
                now += 1 + random.nextInt(40);
                time[i] = now;
                length[i] = 1 + random.nextInt(50);
                notes[i] = random.nextInt(4) == 0 ? mostNotes : 1;
                pitch[2 * i] = 50 + random.nextInt(14);
                pitch[2 * i + 1] = notes[i] == 1 ? -1 : pitch[2 * i] + 1 + random.nextInt(6);
                pin[i] = random.nextInt(12) == 0 ? random.nextInt(3) : -1;
                if (mostNotes == 1) {
                    now += length[i];
                }
            }
            for (int i = 0; i < size; i++) {
                Due.is(name + "event " + i, x.event(0, time[i], length[i], pitch[2 * i], pitch[2 * i + 1], -1), i);
                Due.is(name + "pin " + i, x.pin(i, pin[i]), Player.NONE);
            }
        }

        boolean mayBe(int i, int state) {
            int highest = Math.max(pitch[2 * i], pitch[2 * i + 1]);
            return pitch[2 * i] >= low && highest <= high && (pin[i] == -1 || pin[i] == state);
        }

        /** One choice came as far as to EVENT i, which it could not play; with size: it played all. */
        void end(int i, int price, int[] states) {
            reach = Math.max(reach, i);
            if (i < size) {
                return;
            }
            if (price <= 300) {
                priced[price]++;
            }
            if (best == null || price < least || (price == least && Arrays.compare(states, best) < 0)) {
                least = price;
                best = states;
            }
        }

        void compare() {
            for (int choice = 0; choice < 1 << size; choice++) {
                if (isChoice(choice)) {
                    tryOut(choice);
                }
            }
            Due.is(name + "price()", x.price(), least);
            Due.is(name + "stuck()", x.stuck(), reach < size ? reach : Player.NONE);
            for (int i = 0; i < size; i++) {
                Due.is(name + "way(" + i + ")", x.way(i), best == null ? Player.NONE : best[i]);
            }
            int count = 0;
            for (int most = 0; most <= 300; most++) {
                count += priced[most];
                Due.is(name + "ways(" + most + ")", x.ways(most), count);
            }
        }
    }

    /** A bit that is 1: a breath is taken before this EVENT. */
    private static final class Breaths extends Row {
        Breaths(int seed) {
            super(Player.WIND, seed);
            fill(1);
        }

        boolean isChoice(int choice) {
            return size == 0 || choice % 2 == 1;
        }

        void tryOut(int choice) {
            int[] states = new int[size];
            int price = 0, began = 0, blown = 0;
            for (int i = 0; i < size; i++) {
                if ((choice >> i) % 2 == 1) {
                    began = i;
                    blown = 0;
                }
                if (began == i && i > 0) {
                    int rest = time[i] - (time[i - 1] + length[i - 1]);
                    int lacking = rest < breath ? breath - rest : 0;
                    if (lacking >= length[i - 1]) {
                        end(i, price, states);
                        return;
                    }
                    price += 1 + 2 * lacking;
                }
                blown += length[i];
                states[i] = began - earliest(i);
                if (blown > lung || !mayBe(i, states[i])) {
                    end(i, price, states);
                    return;
                }
            }
            end(size, price, states);
        }

        private int earliest(int i) {
            int j = i, sum = length[i];
            while (j > 0 && sum + length[j - 1] <= lung) {
                j--;
                sum += length[j];
            }
            return j;
        }
    }

    /** A bit tells the hand that plays an EVENT of one NOTE; it is 0 for an EVENT of two. */
    private static final class Hands extends Row {
        Hands(int seed) {
            super(Player.STICKS, seed);
            fill(2);
        }

        boolean isChoice(int choice) {
            for (int i = 0; i < size; i++) {
                if (notes[i] == 2 && (choice >> i) % 2 == 1) {
                    return false;
                }
            }
            return true;
        }

        void tryOut(int choice) {
            int[] states = new int[size];
            int[] at = {-1, -1}, on = {0, 0};
            int price = 0, pair = -1, before = -1;
            for (int i = 0; i < size; i++) {
                int hand = notes[i] == 2 ? 2 : (choice >> i) % 2;
                states[i] = hand == 2 ? 0 : hand * (i - pair) + at[1 - hand] - pair;
                boolean can = mayBe(i, states[i]);
                if (hand != 2 && at[1 - hand] >= 0) {
                    int apart = pitch[2 * i] - on[1 - hand];
                    price += (hand == 0 ? apart > 0 : apart < 0) ? 4 : 0;
                }
                price += hand != 2 && hand == before ? 2 : 0;
                for (int h = 0; h < 2; h++) {
                    if (hand == 2 || hand == h) {
                        int to = pitch[2 * i + (hand == 2 ? h : 0)];
                        int far = at[h] < 0 ? 0 : Math.abs(to - on[h]);
                        can = can && (far == 0 || far * move <= time[i] - time[at[h]]);
                        price += far;
                        at[h] = i;
                        on[h] = to;
                    }
                }
                if (!can) {
                    end(i, price, states);
                    return;
                }
                before = hand;
                pair = hand == 2 ? i : pair;
            }
            end(size, price, states);
        }
    }

    public static void main(String[] args) {
        Due.sentence("A WAY has for each EVENT one of its STATES, such that there is a STEP from each to the next (WIND)");
        for (int seed = 0; seed < RUNS; seed++) {
            new Breaths(seed).compare();
        }
        Due.sentence("A WAY has for each EVENT one of its STATES, such that there is a STEP from each to the next (STICKS)");
        for (int seed = 0; seed < RUNS; seed++) {
            new Hands(seed).compare();
        }
        Due.end();
    }
}
