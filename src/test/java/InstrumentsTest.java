/** The boundary sentences of passages 2 to 6, each at its edge and at both sides of it. */
public final class InstrumentsTest {
    private static final int BAD = Player.BAD, NONE = Player.NONE;
    private static final int KEYBOARD = Player.KEYBOARD, STRINGS = Player.STRINGS, WIND = Player.WIND,
            SLIDE = Player.SLIDE, STICKS = Player.STICKS;
    private static final int LEFT = Player.LEFT, RIGHT = Player.RIGHT;
    private static final int MOVE = Player.MOVE, LUNG = Player.LUNG, BREATH = Player.BREATH, LOW = Player.LOW,
            HIGH = Player.HIGH, BASE = Player.BASE, OPEN = Player.OPEN;

    /** Two FINGERS: {bits, the lower FINGER, s without pains from, to, widest s}. */
    private static final int[][] PAIRS = {{3, 1, 1, 4, 7}, {5, 1, 2, 6, 10}, {6, 2, 1, 2, 3}, {9, 1, 3, 8, 13},
        {10, 2, 2, 4, 6}, {12, 3, 1, 2, 3}, {17, 1, 4, 10, 16}, {18, 2, 3, 6, 9}, {20, 3, 2, 4, 6}, {24, 4, 1, 2, 3}};

    private static void fingersOfOneNote() {
        Due.sentence("2 A STATE is a set of as many FINGERS (1 .. 5) as there are NOTES, in the order of the numbers whose bit FINGER - 1 is 1 for each, rising.");
        for (int hand = LEFT; hand <= RIGHT; hand++) {
            int side = hand == LEFT ? 2 : -2;
            Player x = new Player(KEYBOARD).addBy(hand, 0, 10, 60);
            x.dueStates("one note", 0, new int[] {0, 1, 60}, new int[] {0, 2, 60 + side}, new int[] {0, 4, 60 + 2 * side},
                    new int[] {0, 8, 60 + 3 * side}, new int[] {0, 16, 60 + 4 * side});
        }
        int[] pairs = {3, 5, 6, 9, 10, 12, 17, 18, 20, 24};
        int[] threes = {7, 11, 13, 14, 19, 21, 22, 25, 26, 28};
        for (int hand = LEFT; hand <= RIGHT; hand++) {
            Player x = new Player(KEYBOARD).addBy(hand, 0, 10, 60, 62).addBy(hand, 10, 10, 60, 62, 64);
            Due.is("all sets of two", x.states(0), 10);
            Due.is("all sets of three", x.states(1), 10);
            for (int k = 0; k < 10; k++) {
                Due.is("set " + k + " of two", x.state(0, k, 1), pairs[k]);
                Due.is("set " + k + " of three", x.state(1, k, 1), threes[k]);
            }
        }
    }

    private static int pains(int[] pair, int s) {
        return Math.max(0, s - pair[3]) + Math.max(0, pair[2] - s);
    }

    private static void twoNotes() {
        Due.sentence("2 there is no such STATE, if s is above 3 d + 4 e for some; its PRICE is all that s is above 2 d + 2 e, or below d, together.");
        for (int hand = LEFT; hand <= RIGHT; hand++) {
            for (int s = 1; s <= 18; s++) {
                Player x = new Player(KEYBOARD).addBy(hand, 0, 10, 60, 60 + s);
                int k = 0;
                for (int[] pair : PAIRS) {
                    if (s <= pair[4]) {
                        Due.is(s + " apart: set " + k, x.state(0, k, 1), pair[0]);
                        Due.is(s + " apart: price of " + pair[0], x.state(0, k, 0), pains(pair, s));
                        int aside = 2 * (pair[1] - 1);
                        Due.is(s + " apart: place", x.state(0, k, 2), hand == LEFT ? 60 + s + aside : 60 - aside);
                        k++;
                    }
                }
                Due.is(s + " apart: states", x.states(0), k);
            }
        }
    }

    /** FINGERS 1, 2, 3 alone are looked at: 7 is the widest first, 3 the widest second distance. */
    private static void dueFirstThree(int hand, int low, int middle, int high, int want) {
        Player x = new Player(KEYBOARD).addBy(hand, 0, 10, low, middle, high);
        int k = x.find(0, 7, hand == LEFT ? high : low);
        String name = (hand == LEFT ? "left " : "right ") + low + " " + middle + " " + high;
        Due.is(name, k == NONE ? NONE : x.state(0, k, 0), want);
    }

    private static void neighboursOfThree() {
        Due.sentence("2 For two neighbours among the NOTES .. for some .. together.");
        dueFirstThree(RIGHT, 60, 67, 70, 3 + 1);
        dueFirstThree(RIGHT, 60, 68, 71, NONE);
        dueFirstThree(RIGHT, 60, 67, 71, NONE);
        dueFirstThree(RIGHT, 60, 64, 66, 0);
        dueFirstThree(RIGHT, 60, 65, 67, 1);
        dueFirstThree(RIGHT, 60, 64, 67, 1);
        dueFirstThree(RIGHT, 60, 61, 62, 0);
        dueFirstThree(LEFT, 60, 63, 70, 3 + 1);
        dueFirstThree(LEFT, 60, 63, 71, NONE);
        dueFirstThree(LEFT, 60, 64, 71, NONE);
        dueFirstThree(LEFT, 60, 62, 66, 0);
        dueFirstThree(LEFT, 60, 62, 67, 1);
        dueFirstThree(LEFT, 60, 63, 67, 1);
        // 1, 4, 5 with 1 and 1: the first is 2 below d; 3, 4, 5 with 1 and 4: no FINGER 1 at all.
        Player x = new Player(KEYBOARD).addBy(RIGHT, 0, 10, 60, 61, 62).addBy(RIGHT, 10, 10, 60, 61, 65);
        Due.is("price of 1, 4, 5", x.state(0, 7, 0), 2);
        Due.is("1, 4, 5 with 1 and 4", x.find(1, 25, 60), NONE);
        Due.is("2, 3, 5 with 1 and 4", x.state(1, x.find(1, 22, 58), 0), 0);
        // Only neighbours count: 1, 3, 5 reach 10 and 6.
        Player wide = new Player(KEYBOARD).addBy(RIGHT, 0, 10, 60, 70, 76).addBy(LEFT, 0, 10, 60, 66, 76)
                .addBy(RIGHT, 10, 10, 60, 71, 77).addBy(LEFT, 10, 10, 60, 66, 77);
        Due.is("right 10 and 6 by 1, 3, 5", wide.state(0, wide.find(0, 21, 60), 0), 4 + 2);
        Due.is("left 6 and 10 by 1, 3, 5", wide.state(1, wide.find(1, 21, 76), 0), 4 + 2);
        Due.is("right 11 and 6 by 1, 3, 5", wide.find(2, 21, 60), NONE);
        Due.is("left 6 and 11 by 1, 3, 5", wide.find(3, 21, 77), NONE);
    }

    private static void leftAndRight() {
        Due.sentence("2 RIGHT: lower NOTES have lower FINGERS, LEFT: higher NOTES have lower ones.");
        // 9 apart, then 2: only with FINGER 1 below (RIGHT) a set reaches the 9.
        Player x = new Player(KEYBOARD).addBy(RIGHT, 0, 10, 60, 69, 71).addBy(LEFT, 0, 10, 60, 69, 71)
                .addBy(RIGHT, 10, 10, 60, 62, 71).addBy(LEFT, 10, 10, 60, 62, 71);
        x.dueStates("right 9 and 2", 0, new int[] {3, 13, 60}, new int[] {3, 21, 60}, new int[] {1, 25, 60});
        x.dueStates("left 9 and 2", 1, new int[] {3, 19, 71});
        x.dueStates("right 2 and 9", 2, new int[] {3, 19, 60});
        x.dueStates("left 2 and 9", 3, new int[] {3, 13, 71}, new int[] {3, 21, 71}, new int[] {1, 25, 71});
    }

    private static void keyboardPlace() {
        Due.sentence("2 A STATE's PLACE: RIGHT the lowest PITCH less 2 (its FINGER - 1); LEFT the highest PITCH and 2 (its FINGER - 1).");
        for (int pitch : new int[] {0, 1, 8, 126, 127}) {
            Player x = new Player(KEYBOARD).addBy(LEFT, 0, 10, pitch).addBy(RIGHT, 0, 10, pitch);
            for (int k = 0; k < 5; k++) {
                Due.is("left " + pitch, x.state(0, k, 2), pitch + 2 * k);
                Due.is("right " + pitch, x.state(1, k, 2), pitch - 2 * k);
            }
        }
        Player x = new Player(KEYBOARD).addBy(LEFT, 0, 10, 60, 62, 64).addBy(RIGHT, 0, 10, 60, 62, 64);
        int[] aside = {0, 0, 0, 2, 0, 0, 2, 0, 2, 4};
        for (int k = 0; k < 10; k++) {
            Due.is("left chord", x.state(0, k, 2), 64 + aside[k]);
            Due.is("right chord", x.state(1, k, 2), 60 - aside[k]);
        }
    }

    private static void keyboardInTime() {
        Due.sentence("2 A STEP: WAY LONG is how far the two PLACES are apart; there is none, if that times MOVE is above GAP");
        for (int hand = LEFT; hand <= RIGHT; hand++) {
            for (int other : new int[] {56, 64}) {
                for (int gap = 39; gap <= 41; gap++) {
                    Player x = new Player(KEYBOARD).addBy(hand, 5, 100, 60).addBy(hand, 5 + gap, 100, other);
                    Due.is("4 by 10 in " + gap, x.step(0, 0, 0), gap < 40 ? NONE : 7);
                    x.with(MOVE, 100);
                    Due.is("4 by 100 in " + gap, x.step(0, 0, 0), NONE);
                    x.with(MOVE, 0);
                    Due.is("4 by 0 in " + gap, x.step(0, 0, 0), 7);
                }
                for (int gap = 399; gap <= 401; gap++) {
                    Player x = new Player(KEYBOARD).with(MOVE, 100).addBy(hand, 0, 1, 60).addBy(hand, gap, 1, other);
                    Due.is("4 by 100 in " + gap, x.step(0, 0, 0), gap < 400 ? NONE : 7);
                }
            }
        }
        Player x = new Player(KEYBOARD).with(MOVE, 100).addBy(RIGHT, 0, 1, 60).addBy(RIGHT, 1, 1, 62);
        Due.is("nowhere by 100 in 1", x.step(0, 0, 1), 0);
        Due.is("2 by 100 in 1", x.step(0, 0, 0), NONE);
        x.with(MOVE, 0);
        Due.is("2 by 0 in 1", x.step(0, 0, 0), 5);
        Player far = new Player(KEYBOARD).with(MOVE, 0).addBy(RIGHT, 0, 1, 0).addBy(RIGHT, 1, 1, 127).addBy(RIGHT, 2, 1, 0);
        Due.is("as far as can be", far.step(0, 4, 0), 135);
        Due.is("and back", far.step(1, 0, 4), 135);
        far.with(MOVE, 1);
        Due.is("135 by 1 in 1", far.step(0, 4, 0), NONE);
    }

    private static void sameFinger() {
        Due.sentence("2 its PRICE is WAY LONG, and 3 more, if both EVENTS have one NOTE, the PITCHES differ, and the FINGER is the same.");
        for (int hand = LEFT; hand <= RIGHT; hand++) {
            Player x = new Player(KEYBOARD).with(MOVE, 0).addBy(hand, 0, 1, 60).addBy(hand, 1, 1, 60).addBy(hand, 2, 1, 61)
                    .addBy(hand, 3, 1, 61, 62).addBy(hand, 4, 1, 62, 63).addBy(hand, 5, 1, 63);
            for (int k = 0; k < 5; k++) {
                for (int l = 0; l < 5; l++) {
                    Due.is("the same pitch " + k + " " + l, x.step(0, k, l), 2 * Math.abs(k - l));
                    int way = hand == RIGHT ? Math.abs(1 - 2 * (l - k)) : Math.abs(1 + 2 * (l - k));
                    Due.is("a pitch more " + k + " " + l, x.step(1, k, l), k == l ? way + 3 : way);
                }
            }
            int lowAt = hand == RIGHT ? 61 : 62;
            Due.is("one, then two", x.step(2, 0, 0), lowAt - 61);
            Due.is("two, then two", x.step(3, 0, 0), 1);
            Due.is("two, then one", x.step(4, 0, 0), 63 - (lowAt + 1));
        }
    }

    private static Player oneString(int string, int open) {
        Player x = new Player(STRINGS);
        for (int s = 0; s < 4; s++) {
            x.with(OPEN + s, s == string ? open : 127);
        }
        return x;
    }

    private static void stops() {
        Due.sentence("3 The STOP of a NOTE is its PITCH less the open one of its STRING: 0, or POSITION and 1 .. 4. PRICE: for each NOTE whose STOP is not 0: 1, and 1 more, if it is POSITION and 4.");
        int[][] positions = {{0, 1, 2, 3, 4, 5, 6, 7, 8, 9, 10, 11}, {0}, {0, 1}, {0, 1, 2}, {0, 1, 2, 3}, {1, 2, 3, 4},
            {2, 3, 4, 5}, {3, 4, 5, 6}, {4, 5, 6, 7}, {5, 6, 7, 8}, {6, 7, 8, 9}, {7, 8, 9, 10}, {8, 9, 10, 11},
            {9, 10, 11}, {10, 11}, {11}, {}, {}};
        for (int string = 0; string < 4; string++) {
            for (int stop = -2; stop <= 17; stop++) {
                Player x = oneString(string, 40).add(0, 10, 40 + stop);
                int[] where = stop < 0 ? new int[0] : positions[stop];
                int[][] want = new int[where.length][];
                for (int k = 0; k < where.length; k++) {
                    int cost = stop == 0 ? 0 : stop - where[k] == 4 ? 2 : 1;
                    want[k] = new int[] {cost, where[k], string};
                }
                x.dueStates("stop " + stop + " on " + string, 0, want);
            }
        }
    }

    private static void lowestString() {
        Due.sentence("3 A STATE is a POSITION 0 .. 11 and a lowest STRING t: the NOTES lie, the lowest first, on STRINGS t, t + 1, .. (0 .. 3).");
        int[][] chords = {{60}, {60, 61}, {60, 61, 62}};
        for (int n = 1; n <= 3; n++) {
            // Every STRING is open at 60 + its distance from string t, so that t alone can play it open.
            for (int t = 0; t < 4; t++) {
                Player x = new Player(STRINGS);
                for (int s = 0; s < 4; s++) {
                    int open = s < t || s >= t + n ? 127 : 60 + s - t;
                    x.with(OPEN + s, open);
                }
                x.add(0, 10, chords[n - 1]);
                Due.is(n + " notes from " + t, x.states(0), t + n <= 4 ? 12 : 0);
                Due.is("its lowest string", x.state(0, 11, 2), t + n <= 4 ? t : BAD);
                Due.is("its last position", x.state(0, 11, 1), t + n <= 4 ? 11 : BAD);
                Due.is("its price", x.state(0, 0, 0), t + n <= 4 ? 0 : BAD);
            }
        }
    }

    private static void positionsFirst() {
        Due.sentence("3 (By POSITIONS, then by t.)");
        Player x = new Player(STRINGS).add(0, 10, 62, 69, 76);
        x.dueStates("three open from 1, or stopped 7 from 0", 0, new int[] {0, 0, 1}, new int[] {0, 1, 1}, new int[] {0, 2, 1},
                new int[] {6, 3, 0}, new int[] {0, 3, 1}, new int[] {3, 4, 0}, new int[] {0, 4, 1}, new int[] {3, 5, 0},
                new int[] {0, 5, 1}, new int[] {3, 6, 0}, new int[] {0, 6, 1}, new int[] {0, 7, 1}, new int[] {0, 8, 1},
                new int[] {0, 9, 1}, new int[] {0, 10, 1}, new int[] {0, 11, 1});
        Player y = new Player(STRINGS).add(0, 10, 69, 76, 83);
        y.dueStates("7 from 1, 14 from 0, none from 2", 0, new int[] {6, 3, 1}, new int[] {3, 4, 1}, new int[] {3, 5, 1},
                new int[] {3, 6, 1}, new int[] {6, 10, 0}, new int[] {3, 11, 0});
    }

    private static void oneNoteOutOfReach() {
        Due.sentence("3 The STOP of a NOTE: 0, or POSITION and 1 .. 4: of each NOTE.");
        Player x = new Player(STRINGS).add(0, 10, 56, 66).add(10, 10, 56, 67).add(20, 10, 59, 63).add(30, 10, 60, 63)
                .add(40, 10, 54, 63).add(50, 10, 55, 61).add(60, 10, 55, 62, 69).add(70, 10, 55, 62, 85);
        x.dueStates("1 and 4", 0, new int[] {3, 0, 0});
        x.dueStates("1 and 5", 1);
        x.dueStates("4 and 1", 2, new int[] {3, 0, 0});
        x.dueStates("5 and 1", 3);
        x.dueStates("-1 and 1", 4);
        x.dueStates("0 and -1", 5);
        Due.is("0, 0, 0", x.states(6), 12);
        x.dueStates("0, 0, 16", 7);
    }

    private static void stringsInTime() {
        Due.sentence("3 A STEP: WAY LONG is how far the POSITIONS are apart; none, if that times MOVE is above GAP; PRICE 2 WAY LONG and how far the lowest STRINGS are apart.");
        for (int gap = 29; gap <= 31; gap++) {
            // 63 is played at 0 on 1, and at 4, 5, 6, 7 on 0.
            Player x = new Player(STRINGS).add(7, 10, 63).add(7 + gap, 10, 63);
            Due.is("4 to 7 by 10 in " + gap, x.step(0, 1, 4), gap < 30 ? NONE : 6);
            Due.is("7 to 4 by 10 in " + gap, x.step(0, 4, 1), gap < 30 ? NONE : 6);
            Due.is("0 to 4 by 10 in " + gap, x.step(0, 0, 1), NONE);
            Due.is("0 to 0 by 10 in " + gap, x.step(0, 0, 0), 0);
            x.with(MOVE, 0);
            Due.is("0 on 1 to 4 on 0", x.step(0, 0, 1), 9);
            Due.is("4 on 0 to 0 on 1", x.step(0, 1, 0), 9);
            Due.is("7 on 0 to 0 on 1", x.step(0, 4, 0), 15);
        }
        Player all = new Player(STRINGS).with(MOVE, 100).with(OPEN, 60).with(OPEN + 1, 60).with(OPEN + 2, 60).with(OPEN + 3, 60)
                .add(0, 1, 60).add(1, 1, 60).add(1100, 1, 60).add(2200, 1, 60);
        Due.is("strings alone cost no time", all.step(0, 0, 3), 3);
        Due.is("and back", all.step(0, 3, 0), 3);
        Due.is("11 by 100 in 1099", all.step(1, 0, 44), NONE);
        Due.is("11 by 100 in 1100", all.step(2, 0, 44), 22);
        Due.is("11 by 100 in 1100, three strings", all.step(2, 47, 0), 25);
    }

    private static void lung() {
        Due.sentence("4 A STATE of EVENT i is the EVENT j, 0 .. i, with which its BREATH began: the LENGTHS of j .. i together are LUNG at most. (By j.) PRICE 0.");
        Player x = new Player(WIND).add(0, 100, 60).add(500, 60, 60).add(900, 40, 60);
        int[][] fromOf = {{39, 1, 2, 3}, {40, 1, 2, 2}, {59, 1, 2, 2}, {60, 1, 1, 2}, {99, 1, 1, 2}, {100, 0, 1, 1},
            {159, 0, 1, 1}, {160, 0, 0, 1}, {199, 0, 0, 1}, {200, 0, 0, 0}, {201, 0, 0, 0}, {2000, 0, 0, 0}};
        for (int[] f : fromOf) {
            x.with(LUNG, f[0]);
            for (int i = 0; i < 3; i++) {
                Due.is("LUNG " + f[0] + ": states(" + i + ")", x.states(i), i + 1 - f[1 + i]);
                Due.is("LUNG " + f[0] + ": first j of " + i, x.state(i, 0, 1), f[1 + i] <= i ? f[1 + i] : BAD);
                int last = x.states(i) - 1;
                Due.is("LUNG " + f[0] + ": last j of " + i, x.state(i, last, 1), last >= 0 ? i : BAD);
            }
        }
        x.with(LUNG, 200);
        x.dueStates("all three", 2, new int[] {0, 0, 0}, new int[] {0, 1, 0}, new int[] {0, 2, 0});
    }

    private static void lungEnds() {
        Due.sentence("4 LENGTHS together are LUNG at most: with the least and the most of both.");
        Player x = new Player(WIND).with(LUNG, 1).add(0, 1, 60).add(1, 1, 60).add(2, 2, 60).add(4, 1000, 60)
                .add(1004, 1000, 60).add(2004, 1, 60);
        Due.is("1 of 1", x.states(0), 1);
        Due.is("1 and 1 of 1", x.states(1), 1);
        Due.is("2 of 1", x.states(2), 0);
        x.with(LUNG, 2);
        Due.is("1 and 1 of 2", x.states(1), 2);
        Due.is("2 of 2", x.states(2), 1);
        x.with(LUNG, 999);
        Due.is("1000 of 999", x.states(3), 0);
        x.with(LUNG, 1000);
        Due.is("1000 of 1000", x.states(3), 1);
        x.with(LUNG, 2000);
        Due.is("2000 of 2000", x.states(4), 2);
        Due.is("2001 of 2000", x.states(5), 2);
        x.with(LUNG, 1999);
        Due.is("2000 of 1999", x.states(4), 1);
        Due.is("1001 of 1999", x.states(5), 2);
        Player all = new Player(WIND).with(LUNG, 2000);
        for (int i = 0; i < 40; i++) {
            all.add(50 * i, 50, 60);
        }
        Due.is("forty of one breath", all.states(39), 40);
        Due.is("its first j", all.state(39, 0, 1), 0);
        all.with(LUNG, 1999);
        Due.is("thirty-nine of one breath", all.states(39), 39);
        Due.is("its first j", all.state(39, 0, 1), 1);
    }

    private static void lungAndLow() {
        Due.sentence("4 the EVENT j, 0 .. i: also one that has no STATES.");
        Player x = new Player(WIND).add(0, 100, 50).add(100, 100, 60).add(200, 100, 60).with(LOW, 51);
        Due.is("the first has none", x.states(0), 0);
        x.dueStates("the second may have begun with it", 1, new int[] {0, 0, 0}, new int[] {0, 1, 0});
        Due.is("stuck at it", x.stuck(), 0);
        Due.is("no step from it", x.step(0, 0, 0), BAD);
        Due.is("a step behind it", x.step(1, 0, 0), 0);
    }

    private static void sameBreath() {
        Due.sentence("4 A STEP is to the same j (PRICE 0), or to j = i + 1");
        Player x = new Player(WIND).with(BREATH, 200).add(0, 10, 60).add(10, 10, 60).add(20, 10, 60);
        Due.is("0 to 0", x.step(0, 0, 0), 0);
        Due.is("0 to 0 again", x.step(1, 0, 0), 0);
        Due.is("1 to 1", x.step(1, 1, 1), 0);
        Due.is("0 to 1, which is not new", x.step(1, 0, 1), NONE);
        Due.is("1 to 0, which is over", x.step(1, 1, 0), NONE);
        Due.is("0 to 2, without time", x.step(1, 0, 2), NONE);
        x.with(BREATH, 0);
        Due.is("0 to 2", x.step(1, 0, 2), 1);
        Due.is("1 to 2", x.step(1, 1, 2), 1);
        Due.is("0 to 1 at first", x.step(0, 0, 1), 1);
        Due.is("0 to 1, which is not new, still", x.step(1, 0, 1), NONE);
    }

    private static void breathTooLong() {
        Due.sentence("4 REST is the TIME of that less TIME and LENGTH of i; there is none, if BREATH less REST is LENGTH of i or more");
        for (int rest : new int[] {0, 1, 7}) {
            Player x = new Player(WIND).add(100, 30, 60).add(130 + rest, 77, 60);
            x.with(BREATH, rest + 29);
            Due.is("29 of a note of 30", x.step(0, 0, 1), 59);
            x.with(BREATH, rest + 30);
            Due.is("30 of a note of 30", x.step(0, 0, 1), NONE);
            x.with(BREATH, rest + 31);
            Due.is("31 of a note of 30", x.step(0, 0, 1), NONE);
            Due.is("the same breath needs none of it", x.step(0, 0, 0), 0);
        }
        Player one = new Player(WIND).add(0, 1, 60).add(1, 1, 60).with(BREATH, 1);
        Due.is("1 of a note of 1", one.step(0, 0, 1), NONE);
        one.with(BREATH, 0);
        Due.is("0 of a note of 1", one.step(0, 0, 1), 1);
        Player most = new Player(WIND).with(BREATH, 200).with(LUNG, 2000).add(0, 200, 60).add(200, 201, 60).add(401, 1000, 60)
                .add(1401, 1, 60);
        Due.is("200 of a note of 200", most.step(0, 0, 1), NONE);
        Due.is("200 of a note of 201", most.step(1, 0, 2), 401);
        Due.is("200 of a note of 1000", most.step(2, 0, 3), 401);
    }

    private static void restAndBreath() {
        Due.sentence("4 PRICE 1, and 2 times what REST is below BREATH.");
        for (int rest : new int[] {0, 1, 50, 200}) {
            Player x = new Player(WIND).add(0, 300, 60).add(300 + rest, 10, 60);
            for (int breath = Math.max(0, rest - 2); breath <= Math.min(200, rest + 2); breath++) {
                x.with(BREATH, breath);
                Due.is("REST " + rest + ", BREATH " + breath, x.step(0, 0, 1), breath > rest ? 1 + 2 * (breath - rest) : 1);
            }
        }
        Player far = new Player(WIND).add(0, 1, 60).add(100000, 1, 60).with(BREATH, 200);
        Due.is("a rest as long as can be", far.step(0, 0, 1), 1);
    }

    /** The PLACES of a PITCH 5 to 41 above BASE. */
    private static final int[][] PLACES = {{}, {6}, {5}, {4}, {3}, {2}, {1}, {0}, {6}, {5}, {4}, {3}, {2}, {1, 6}, {0, 5}, {4},
        {3}, {2, 6}, {1, 5}, {0, 4}, {3, 6}, {2, 5}, {1, 4}, {0, 3, 6}, {2, 5}, {1, 4, 6}, {0, 3, 5}, {2, 4, 6}, {1, 3, 5},
        {0, 2, 4, 6}, {1, 3, 5}, {0, 2, 4}, {1, 3}, {0, 2}, {1}, {0}, {}};

    private static void places() {
        Due.sentence("5 A STATE is a PLACE 0 .. 6 such that PITCH and PLACE less BASE is one of 12, 19, 24, 28, 31, 34, 36, 38, 40. (By PLACES.)");
        for (int base : new int[] {0, 34, 86, 100}) {
            for (int n = 0; n < PLACES.length && base + 5 + n <= 127; n++) {
                Player x = new Player(SLIDE).with(BASE, base).add(0, 10, base + 5 + n);
                int[][] want = new int[PLACES[n].length][];
                for (int k = 0; k < want.length; k++) {
                    int place = PLACES[n][k];
                    want[k] = new int[] {place == 6 ? 2 : place == 5 ? 1 : 0, place, 0};
                }
                x.dueStates(5 + n + " above " + base, 0, want);
            }
        }
        Player low = new Player(SLIDE).with(BASE, 100).add(0, 10, 0).add(10, 10, 99).add(20, 10, 105).add(30, 10, 106);
        int[] lowStates = {0, 0, 0, 1};
        for (int i = 0; i < 4; i++) {
            Due.is("below the first: " + i, low.states(i), lowStates[i]);
        }
        Player high = new Player(SLIDE).with(BASE, 0).add(0, 10, 127).add(10, 10, 41).add(20, 10, 40).add(30, 10, 0);
        int[] highStates = {0, 0, 1, 0};
        for (int i = 0; i < 4; i++) {
            Due.is("above the last: " + i, high.states(i), highStates[i]);
        }
    }

    private static void placePrices() {
        Due.sentence("5 PRICE 1 with PLACE 5, 2 with 6, else 0.");
        int[] prices = {0, 0, 0, 0, 0, 1, 2};
        for (int place = 0; place <= 6; place++) {
            Player x = new Player(SLIDE).add(0, 10, 46 - place);
            x.dueStates("place " + place, 0, new int[] {prices[place], place, 0});
            Due.is("price of it all", x.price(), prices[place]);
        }
    }

    private static void slideInTime() {
        Due.sentence("5 A STEP: WAY LONG is how far the PLACES are apart; none, if that times MOVE is above GAP; PRICE WAY LONG.");
        for (int gap = 59; gap <= 61; gap++) {
            Player x = new Player(SLIDE).add(3, 10, 46).add(3 + gap, 10, 40).add(3 + 2 * gap, 10, 46);
            Due.is("0 to 6 by 10 in " + gap, x.step(0, 0, 0), gap < 60 ? NONE : 6);
            Due.is("6 to 0 by 10 in " + gap, x.step(1, 0, 0), gap < 60 ? NONE : 6);
            x.with(MOVE, 9);
            Due.is("0 to 6 by 9 in " + gap, x.step(0, 0, 0), 6);
            x.with(MOVE, 0);
            Due.is("0 to 6 by 0 in " + gap, x.step(0, 0, 0), 6);
        }
        Player x = new Player(SLIDE).with(MOVE, 100).add(0, 1, 46).add(1, 1, 46).add(100, 1, 45).add(200, 1, 46);
        Due.is("nowhere by 100 in 1", x.step(0, 0, 0), 0);
        Due.is("1 by 100 in 99", x.step(1, 0, 0), NONE);
        Due.is("1 by 100 in 100", x.step(2, 0, 0), 1);
    }

    private static void sticksOther() {
        Due.sentence("6 OTHER, the latest EVENT before it in which the other HAND played, or -1 (never): all EVENTS between that and i (with -1: all before i) have one NOTE. (By HANDS, then by OTHER.)");
        Player x = new Player(STICKS).add(0, 10, 60).add(10, 10, 60).add(20, 10, 50, 70).add(30, 10, 60).add(40, 10, 60)
                .add(50, 10, 50, 70).add(60, 10, 50, 70).add(70, 10, 60);
        x.dueStates("the first", 0, new int[] {0, 0, -1}, new int[] {0, 1, -1});
        x.dueStates("the second", 1, new int[] {0, 0, -1}, new int[] {0, 0, 0}, new int[] {0, 1, -1}, new int[] {0, 1, 0});
        x.dueStates("after two notes", 3, new int[] {0, 0, 2}, new int[] {0, 1, 2});
        x.dueStates("one after that", 4, new int[] {0, 0, 2}, new int[] {0, 0, 3}, new int[] {0, 1, 2}, new int[] {0, 1, 3});
        x.dueStates("after two notes twice", 7, new int[] {0, 0, 6}, new int[] {0, 1, 6});
        Player first = new Player(STICKS).add(0, 10, 50, 70).add(10, 10, 60);
        first.dueStates("two notes first of all: never is not any more", 1, new int[] {0, 0, 0}, new int[] {0, 1, 0});
        Player last = new Player(STICKS);
        for (int i = 0; i < 40; i++) {
            last.add(i, 1, 60);
            Due.is("states of " + i, last.states(i), 2 * (i + 1));
            Due.is("the first OTHER", last.state(i, 0, 2), -1);
            Due.is("the last OTHER of HAND 0", last.state(i, i, 2), i - 1);
            Due.is("the first of HAND 1", last.state(i, i + 1, 1), 1);
            Due.is("its OTHER", last.state(i, i + 1, 2), -1);
            Due.is("the last OTHER", last.state(i, 2 * i + 1, 2), i - 1);
        }
    }

    private static void sticksTwoNotes() {
        Due.sentence("6 An EVENT of two NOTES has one STATE: HAND 0 plays the lower one, HAND 1 the higher one.");
        Player x = new Player(STICKS).add(0, 10, 60).add(10, 10, 50, 51).add(20, 10, 0, 127);
        x.dueStates("after one note", 1, new int[] {0, 2, -1});
        x.dueStates("after two notes", 2, new int[] {0, 2, -1});
        // By time 1000 each HAND may go as far as 50 at MOVE 20, but not 51.
        Player y = new Player(STICKS).with(MOVE, 20).add(0, 10, 60, 70).add(1000, 10, 10, 120).add(2000, 10, 60, 70)
                .add(3000, 10, 9, 70).add(4000, 10, 9, 121);
        Due.is("50 down and 50 up", y.step(0, 0, 0), 100);
        Due.is("50 up and 50 down", y.step(1, 0, 0), 100);
        Due.is("51 down by HAND 0", y.step(2, 0, 0), NONE);
        Due.is("51 up by HAND 1", y.step(3, 0, 0), NONE);
    }

    private static void crossing() {
        Due.sentence("6 PRICE 0; but of one NOTE with OTHER not -1: 4, if by HAND 0 it is above, by HAND 1 below the PITCH that the other HAND played in OTHER.");
        for (int pitch = 59; pitch <= 61; pitch++) {
            Player x = new Player(STICKS).add(0, 10, 60).add(10, 10, pitch);
            int above = pitch > 60 ? 4 : 0;
            int below = pitch < 60 ? 4 : 0;
            x.dueStates(pitch + " after 60", 1, new int[] {0, 0, -1}, new int[] {above, 0, 0}, new int[] {0, 1, -1},
                    new int[] {below, 1, 0});
        }
        Due.sentence("6 (What a HAND played in an EVENT of two NOTES is its own one.)");
        int[][] after = {{49, 0, 4}, {50, 0, 0}, {51, 0, 0}, {69, 0, 0}, {70, 0, 0}, {71, 4, 0}};
        for (int[] a : after) {
            Player x = new Player(STICKS).add(0, 10, 50, 70).add(10, 10, a[0]).add(20, 10, a[0]);
            x.dueStates(a[0] + " after 50 and 70", 1, new int[] {a[1], 0, 0}, new int[] {a[2], 1, 0});
            x.dueStates(a[0] + " later", 2, new int[] {a[1], 0, 0}, new int[] {0, 0, 1}, new int[] {a[2], 1, 0},
                    new int[] {0, 1, 1});
        }
    }

    private static void sticksInTime() {
        Due.sentence("6 there is none, if for one of them that times MOVE is above the TIME of i + 1 less that of its EVENT");
        for (int time = 39; time <= 41; time++) {
            Player x = new Player(STICKS).add(0, 10, 60).add(30, 10, 70).add(time, 10, 64);
            int want = time < 40 ? NONE : 4;
            int from = x.find(1, 1, 0);
            Due.is("HAND 0 from 0 to " + time, x.step(1, from, x.find(2, 0, 1)), want);
            from = x.find(1, 0, 0);
            Due.is("HAND 1 from 0 to " + time, x.step(1, from, x.find(2, 1, 1)), want);
            from = x.find(1, 0, -1);
            Due.is("HAND 0 from 30 to " + time, x.step(1, from, x.find(2, 0, -1)), NONE);
            x.with(MOVE, 0);
            Due.is("with no MOVE", x.step(1, from, x.find(2, 0, -1)), 6 + 2);
        }
        for (int gap = 39; gap <= 41; gap++) {
            for (int aside = 0; aside < 4; aside++) {
                Player left = new Player(STICKS).add(0, 10, 60, 70).add(gap, 10, 56, 70 + aside);
                Due.is("of both, HAND 0 in " + gap, left.step(0, 0, 0), gap < 40 ? NONE : 4 + aside);
                Player right = new Player(STICKS).add(0, 10, 60, 70).add(gap, 10, 60 - aside, 74);
                Due.is("of both, HAND 1 in " + gap, right.step(0, 0, 0), gap < 40 ? NONE : 4 + aside);
            }
            Player both = new Player(STICKS).add(0, 10, 60, 70).add(gap, 10, 56, 74);
            Due.is("of both, each in " + gap, both.step(0, 0, 0), gap < 40 ? NONE : 8);
        }
    }

    private static void sticksNever() {
        Due.sentence("6 each HAND that plays then played last in an EVENT as the STATE of i tells (i, or its OTHER; perhaps never): WAY LONG is how far its two PITCHES are apart (0: never)");
        Player x = new Player(STICKS).with(MOVE, 100).add(0, 10, 0).add(1, 10, 127).add(2, 10, 0, 127).add(3, 10, 0, 127);
        Due.is("the other HAND for the first time", x.step(0, 0, x.find(1, 1, 0)), 0);
        Due.is("the same one", x.step(0, 0, x.find(1, 0, -1)), NONE);
        Due.is("both, HAND 0 from 0 and HAND 1 from 1", x.step(1, x.find(1, 1, 0), 0), 0);
        Due.is("both, crossed", x.step(1, x.find(1, 0, 0), 0), NONE);
        Due.is("both, HAND 0 never, HAND 1 from 1", x.step(1, x.find(1, 1, -1), 0), 0);
        Due.is("both, HAND 0 from 1, HAND 1 never", x.step(1, x.find(1, 0, -1), 0), NONE);
        Due.is("both and both", x.step(2, 0, 0), 0);
        x.with(MOVE, 0);
        Due.is("both, crossed, with no MOVE", x.step(1, x.find(1, 0, 0), 0), 127 + 127);
        Due.is("both, HAND 0 from 1, with no MOVE", x.step(1, x.find(1, 0, -1), 0), 127);
    }

    private static void sticksAgain() {
        Due.sentence("6 PRICE all WAYS LONG, and 2 for one that played in i with one NOTE and plays in i + 1 with one NOTE.");
        Player x = new Player(STICKS).with(MOVE, 0).add(0, 10, 60).add(10, 10, 60).add(20, 10, 61).add(30, 10, 60, 70)
                .add(40, 10, 61, 72).add(50, 10, 62).add(60, 10, 62);
        Due.is("one and one by HAND 0", x.step(0, 0, x.find(1, 0, -1)), 2);
        Due.is("one and one by HAND 1", x.step(0, 1, x.find(1, 1, -1)), 2);
        Due.is("one and one in turn", x.step(0, 0, x.find(1, 1, 0)), 0);
        Due.is("one and one again, a pitch up", x.step(1, x.find(1, 0, -1), x.find(2, 0, -1)), 3);
        Due.is("HAND 0 after HAND 1", x.step(1, x.find(1, 1, 0), x.find(2, 0, 1)), 1);
        Due.is("one, then two", x.step(2, x.find(2, 0, 1), 0), 1 + 10);
        Due.is("two, then two", x.step(3, 0, 0), 3);
        Due.is("two, then one by HAND 0", x.step(4, 0, x.find(5, 0, 4)), 1);
        Due.is("two, then one by HAND 1", x.step(4, 0, x.find(5, 1, 4)), 10);
        Due.is("one again after two", x.step(5, x.find(5, 0, 4), x.find(6, 0, 4)), 2);
    }

    private static void sticksMustFit() {
        Due.sentence("6 If i + 1 has one NOTE: the other HAND must have played last in OTHER of the STATE of i + 1 (there is a STEP only so).");
        Player x = new Player(STICKS).with(MOVE, 0).add(0, 10, 60).add(10, 10, 60).add(20, 10, 60);
        // {HAND and OTHER of event 1, HAND and OTHER of event 2 that fit to it}
        int[][] fits = {{0, -1, 0, -1}, {0, -1, 1, 1}, {0, 0, 0, 0}, {0, 0, 1, 1}, {1, -1, 1, -1}, {1, -1, 0, 1}, {1, 0, 1, 0},
            {1, 0, 0, 1}};
        for (int k = 0; k < 4; k++) {
            int hand = x.state(1, k, 1);
            int other = x.state(1, k, 2);
            int steps = 0;
            for (int l = 0; l < 6; l++) {
                boolean fit = false;
                for (int[] f : fits) {
                    fit |= f[0] == hand && f[1] == other && f[2] == x.state(2, l, 1) && f[3] == x.state(2, l, 2);
                }
                Due.holds(k + " to " + l, fit == (x.step(1, k, l) != NONE));
                steps += fit ? 1 : 0;
            }
            Due.is("steps from " + k, steps, 2);
        }
        Player y = new Player(STICKS).with(MOVE, 0).add(0, 10, 60).add(10, 10, 60, 70).add(20, 10, 60).add(30, 10, 60);
        Due.is("after two notes both fit", (y.step(1, 0, 0) == 0 ? 1 : 0) + (y.step(1, 0, 1) == 10 ? 1 : 0), 2);
        Due.is("to two notes all fit", (y.step(0, 0, 0) == 0 ? 1 : 0) + (y.step(0, 1, 0) == 10 ? 1 : 0), 2);
        Due.is("HAND 0 twice: the other one in 1", y.step(2, y.find(2, 0, 1), y.find(3, 0, 1)), 2);
        Due.is("HAND 0 twice: not in 2", y.step(2, y.find(2, 0, 1), y.find(3, 0, 2)), NONE);
        Due.is("HAND 1 then: the other one in 2", y.step(2, y.find(2, 0, 1), y.find(3, 1, 2)), 10);
        Due.is("HAND 1 then: not in 1", y.step(2, y.find(2, 0, 1), y.find(3, 1, 1)), NONE);
    }

    private static void sticksOfNoStates() {
        Due.sentence("6 OTHER: also an EVENT that has no STATES.");
        Player x = new Player(STICKS).add(0, 10, 50).add(10, 10, 60).with(LOW, 51).with(HIGH, 100);
        Due.is("the first has none", x.states(0), 0);
        x.dueStates("the second", 1, new int[] {0, 0, -1}, new int[] {4, 0, 0}, new int[] {0, 1, -1}, new int[] {0, 1, 0});
        Due.is("stuck", x.stuck(), 0);
    }

    public static void main(String[] args) {
        fingersOfOneNote();
        twoNotes();
        neighboursOfThree();
        leftAndRight();
        keyboardPlace();
        keyboardInTime();
        sameFinger();
        stops();
        lowestString();
        positionsFirst();
        oneNoteOutOfReach();
        stringsInTime();
        lung();
        lungEnds();
        lungAndLow();
        sameBreath();
        breathTooLong();
        restAndBreath();
        places();
        placePrices();
        slideInTime();
        sticksOther();
        sticksTwoNotes();
        crossing();
        sticksInTime();
        sticksNever();
        sticksAgain();
        sticksMustFit();
        sticksOfNoStates();
        Due.end();
    }
}
