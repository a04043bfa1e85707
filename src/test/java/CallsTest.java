/** The boundary sentences of promises 1 to 14, each at its edge and at both sides of it. */
public final class CallsTest {
    private static final int BAD = Player.BAD, NONE = Player.NONE, NOT = Player.NOT, FULL = Player.FULL;
    private static final int KEYBOARD = Player.KEYBOARD, STRINGS = Player.STRINGS, WIND = Player.WIND,
            SLIDE = Player.SLIDE, STICKS = Player.STICKS;
    private static final int LEFT = Player.LEFT, RIGHT = Player.RIGHT;
    private static final int MOVE = Player.MOVE, LUNG = Player.LUNG, BREATH = Player.BREATH, LOW = Player.LOW,
            HIGH = Player.HIGH;
    private static final int LEAST = Player.LEAST, MOST = Player.MOST;
    private static final int MANY = 1000000000;

    private static void newObject() {
        Due.sentence("1 No EVENTS, BOUNDS as at first.");
        int[] first = {10, 400, 30, 0, 127, 34, 55, 62, 69, 76};
        for (int instrument = 0; instrument < 5; instrument++) {
            Player x = new Player(instrument);
            int[] told = {0, 0, 0, instrument, 0};
            for (int what = 0; what < 5; what++) {
                Due.is("told(" + what + ")", x.told(what), told[what]);
            }
            for (int what = 0; what < 10; what++) {
                Due.is("bound " + what, x.bound(what, 1), first[what]);
            }
            Due.is("no event 0", x.about(0, 0), BAD);
            Due.is("nothing to drop", x.drop(), NONE);
        }
        Due.sentence("1 (An INSTRUMENT that there is not: the nearest.)");
        int[][] nearest = {{LEAST, 0}, {-1000, 0}, {-2, 0}, {-1, 0}, {0, 0}, {1, 1}, {2, 2}, {3, 3}, {4, 4}, {5, 4}, {6, 4},
            {1000, 4}, {MOST, 4}};
        for (int[] pair : nearest) {
            Player x = new Player(pair[0]);
            Due.is("instrument " + pair[0], x.told(3), pair[1]);
            Due.is("plays three notes", x.play(0, 1, 60, 64, 67), pair[1] < WIND ? 0 : BAD);
            Due.is("plays two notes", x.play(2000, 1, 60, 64), pair[1] < WIND ? 1 : pair[1] == STICKS ? 0 : BAD);
        }
    }

    private static void numbers() {
        Due.sentence("2 An EVENT more: its number.");
        for (int instrument = 0; instrument < 5; instrument++) {
            Player x = new Player(instrument);
            Due.is("the first", x.play(0, 1, 60), 0);
            Due.is("the second", x.play(1, 1, 60), 1);
            Due.is("a refused one", x.play(1, 1, 60), NOT);
            Due.is("the third", x.play(2, 1, 60), 2);
            x.drop();
            x.drop();
            Due.is("the second again", x.play(2, 1, 60), 1);
        }
    }

    private static void missingNotes() {
        Due.sentence("2 q, r -1: no second, no third NOTE (r is -1, if q is).");
        for (int instrument : new int[] {KEYBOARD, STRINGS, STICKS}) {
            Player x = new Player(instrument);
            Due.is("no q, but r", x.event(0, 0, 1, 60, -1, 64), BAD);
            Due.is("no q, but r 0", x.event(0, 0, 1, 60, -1, 0), BAD);
            Due.is("no q, but r 127", x.event(0, 0, 1, 60, -1, 127), BAD);
            Due.is("no q, r -2", x.event(0, 0, 1, 60, -1, -2), BAD);
            Due.is("q -2", x.event(0, 0, 1, 60, -2, -1), BAD);
            Due.is("q and r -2", x.event(0, 0, 1, 60, -2, -2), BAD);
            Due.is("nothing came", x.told(0), 0);
            Due.is("no q, no r", x.event(0, 0, 1, 60, -1, -1), 0);
            Due.is("one note", x.about(0, 3), 1);
            Due.is("no r", x.event(0, 10, 1, 60, 64, -1), 1);
            Due.is("two notes", x.about(1, 3), 2);
            int three = instrument == STICKS ? BAD : 3;
            Due.is("q and r", x.event(0, 20, 1, 60, 64, 67), three == 3 ? 2 : BAD);
            Due.is("three notes", x.about(2, 3), three);
        }
    }

    private static void timesAndLengths() {
        Due.sentence("2 BAD: TIME (0 .. 100000)");
        for (int instrument = 0; instrument < 5; instrument++) {
            for (int time : new int[] {LEAST, -100000, -1, 0, 1, 99999, 100000, 100001, MOST}) {
                boolean fine = time >= 0 && time <= 100000;
                Player x = new Player(instrument);
                Due.is("time " + time, x.play(time, 1000, 60), fine ? 0 : BAD);
                Due.is("its time", x.about(0, 1), fine ? time : BAD);
            }
        }
        Due.sentence("2 BAD: LENGTH (1 .. 1000)");
        for (int instrument = 0; instrument < 5; instrument++) {
            for (int length : new int[] {LEAST, -1000, -1, 0, 1, 2, 999, 1000, 1001, MOST}) {
                boolean fine = length >= 1 && length <= 1000;
                Player x = new Player(instrument);
                Due.is("length " + length, x.play(0, length, 60), fine ? 0 : BAD);
                Due.is("its length", x.about(0, 2), fine ? length : BAD);
            }
        }
    }

    private static void notAboveItsChain() {
        Due.sentence("2 NOT: its TIME is not above that of the EVENT before it in its CHAIN");
        for (int instrument = 0; instrument < 5; instrument++) {
            for (int hand = 0; hand <= (instrument == KEYBOARD ? 1 : 0); hand++) {
                for (int time = 99; time <= 101; time++) {
                    Player x = new Player(instrument).addBy(hand, 100, 1, 60);
                    Due.is("at " + time + " after 100", x.playBy(hand, time, 1, 60), time > 100 ? 1 : NOT);
                }
                Player zero = new Player(instrument).addBy(hand, 0, 1, 60);
                Due.is("at 0 after 0", zero.playBy(hand, 0, 1, 60), NOT);
                Due.is("at 1 after 0", zero.playBy(hand, 1, 1, 60), 1);
                Player last = new Player(instrument).addBy(hand, 100000, 1, 60);
                Due.is("at 100000 after 100000", last.playBy(hand, 100000, 1, 60), NOT);
                Due.is("at 99999 after 100000", last.playBy(hand, 99999, 1, 60), NOT);
            }
        }
    }

    private static void aheadOfTheEnd() {
        Due.sentence("2 NOT: or it begins ahead of the end (TIME and LENGTH) of that one (WIND, SLIDE)");
        for (int instrument = 0; instrument < 5; instrument++) {
            boolean waits = instrument == WIND || instrument == SLIDE;
            for (int length : new int[] {1, 2, 50, 1000}) {
                for (int late = -1; late <= 1; late++) {
                    int time = 100 + length + late;
                    Player x = new Player(instrument).add(100, length, 60);
                    boolean fits = time > 100 && (late >= 0 || !waits);
                    Due.is(length + " long, " + late + " from its end on " + instrument, x.play(time, 1, 60), fits ? 1 : NOT);
                }
            }
            Player edge = new Player(instrument).add(99500, 500, 60);
            Due.is("at the very end", edge.play(100000, 1000, 60), 1);
            Player over = new Player(instrument).add(99500, 501, 60);
            Due.is("an end behind all times", over.play(100000, 1000, 60), waits ? NOT : 1);
        }
        Player both = new Player(KEYBOARD).addBy(LEFT, 100, 1000, 60);
        Due.is("a KEYBOARD does not wait, one HAND", both.playBy(LEFT, 101, 1, 60), 1);
        Due.is("nor the other HAND", both.playBy(RIGHT, 102, 1, 60), 2);
    }

    private static void belowTheLast() {
        Due.sentence("2 NOT: or its TIME is below that of the EVENT before it;");
        for (int hand = LEFT; hand <= RIGHT; hand++) {
            int other = 1 - hand;
            for (int time = 99; time <= 101; time++) {
                Player x = new Player(KEYBOARD).addBy(hand, 100, 10, 60);
                Due.is("the other HAND's first at " + time, x.playBy(other, time, 10, 60), time >= 100 ? 1 : NOT);
                Player y = new Player(KEYBOARD).addBy(other, 50, 10, 60).addBy(hand, 100, 10, 60);
                Due.is("the other HAND's second at " + time, y.playBy(other, time, 10, 60), time >= 100 ? 2 : NOT);
            }
            Player z = new Player(KEYBOARD).addBy(hand, 100, 10, 60).addBy(other, 100, 10, 60);
            Due.is("the same time a second time", z.playBy(hand, 100, 10, 60), NOT);
            Due.is("a bit later", z.playBy(hand, 101, 10, 60), 2);
        }
    }

    private static void fitsAfterDrop() {
        Due.sentence("2 NOT: the EVENT does not fit those before it: those that went do not count.");
        for (int instrument = 0; instrument < 5; instrument++) {
            Player x = new Player(instrument).add(0, 10, 60).add(50, 10, 60);
            Due.is("at 20 after 50", x.play(20, 10, 60), NOT);
            x.drop();
            Due.is("at 9 after 0", x.play(9, 10, 60), instrument == WIND || instrument == SLIDE ? NOT : 1);
            x.drop();
            Player y = new Player(instrument).add(0, 10, 60).add(50, 10, 60);
            y.drop();
            Due.is("at 20 after 0", y.play(20, 10, 60), 1);
            y.drop();
            y.drop();
            Due.is("at 0 after all went", y.play(0, 10, 60), 0);
        }
        Player both = new Player(KEYBOARD).addBy(LEFT, 10, 10, 60).addBy(RIGHT, 10, 10, 60).addBy(RIGHT, 90, 10, 60);
        both.drop();
        Due.is("LEFT after the last of RIGHT went", both.playBy(LEFT, 11, 10, 60), 2);
        Due.is("RIGHT then", both.playBy(RIGHT, 11, 10, 60), 3);
        Due.is("RIGHT again", both.playBy(RIGHT, 11, 10, 60), NOT);
    }

    private static void full() {
        Due.sentence("2 FULL.");
        for (int instrument = 0; instrument < 5; instrument++) {
            Player x = new Player(instrument);
            for (int i = 0; i < 39; i++) {
                x.add(10 * i, 10, 60);
            }
            Due.is("the 40th", x.play(390, 10, 60), 39);
            Due.is("the 41st", x.play(400, 10, 60), FULL);
            Due.is("the 41st, at the same time as the 40th", x.play(390, 10, 60), NOT);
            Due.is("the 41st, of no length", x.play(400, 0, 60), BAD);
            Due.is("as many as before", x.told(0), 40);
        }
    }

    private static void drop() {
        Due.sentence("3 The last EVENT goes, PINNED or not: how many there are. NONE: there was none.");
        for (int instrument = 0; instrument < 5; instrument++) {
            Player x = new Player(instrument);
            Due.is("none", x.drop(), NONE);
            x.add(0, 10, 60);
            Due.is("one", x.drop(), 0);
            Due.is("none more", x.drop(), NONE);
            Due.is("none still", x.drop(), NONE);
            Due.is("none are there", x.told(0), 0);
            for (int i = 0; i < 40; i++) {
                x.add(10 * i, 10, 60);
                if (i % 3 == 0) {
                    x.pin(i, 0);
                }
            }
            for (int i = 39; i >= 0; i--) {
                Due.is("one of " + (i + 1), x.drop(), i);
                Due.is("it is gone", x.about(i, 1), BAD);
                Due.is("pinned ones", x.told(4), (i + 2) / 3);
            }
            Due.is("all gone", x.drop(), NONE);
        }
    }

    private static void dropPinned() {
        Due.sentence("3 The last EVENT goes, PINNED or not: the PIN goes with it.");
        for (int instrument = 0; instrument < 5; instrument++) {
            Player x = new Player(instrument).add(0, 10, 60).add(50, 10, 60);
            x.pin(1, 99);
            Due.is("stuck", x.stuck(), 1);
            Due.is("one goes", x.drop(), 1);
            Due.is("not stuck", x.stuck(), NONE);
            Due.is("no pinned one", x.told(4), 0);
            x.add(50, 10, 60);
            Due.is("the new one is free", x.about(1, 7), NONE);
            Due.is("not stuck by it", x.stuck(), NONE);
            Due.is("pinned anew: it was free", x.pin(1, 0), NONE);
        }
    }

    private static void dropUnlinks() {
        Due.sentence("3 The last EVENT goes: the one before it in its CHAIN is the last again.");
        for (int instrument = 0; instrument < 5; instrument++) {
            Player x = new Player(instrument).add(0, 10, 60).add(1000, 10, 60);
            Due.is("a step", x.step(0, 0, 0), instrument == STICKS ? 2 : 0);
            x.drop();
            Due.is("no step", x.step(0, 0, 0), BAD);
            x.add(1000, 10, 60);
            Due.is("a step again", x.step(0, 0, 0), instrument == STICKS ? 2 : 0);
        }
        Player both = new Player(KEYBOARD).addBy(LEFT, 0, 10, 60).addBy(RIGHT, 0, 10, 60).addBy(LEFT, 90, 10, 60)
                .addBy(RIGHT, 90, 10, 60);
        both.drop();
        Due.is("LEFT has a step still", both.step(0, 0, 0), 0);
        Due.is("RIGHT has none", both.step(1, 0, 0), BAD);
        both.drop();
        Due.is("LEFT has none", both.step(0, 0, 0), BAD);
    }

    private static void dropAsIfItNeverCame() {
        Due.sentence("3 The last EVENT goes: all is told as before it came.");
        // The places: {0, 4}, {2, 5}, {6}.
        Player x = new Player(SLIDE).add(0, 10, 58);
        int[][] told = {{0, NONE, 2, 2}, {2, NONE, 0, 4}, {5, NONE, 0, 2}};
        dueTold(x, told[0]);
        dueTold(x.add(100, 10, 60), told[1]);
        dueTold(x.add(120, 10, 40), told[2]);
        x.drop();
        dueTold(x, told[1]);
        x.dueWay("two", 0, 0);
        x.drop();
        dueTold(x, told[0]);
        x.dueWay("one", 0);
        x.drop();
        dueTold(x, new int[] {0, NONE, 1, 1});
        dueTold(x.add(100, 10, 60).add(120, 10, 40), new int[] {4, NONE, 0, 1});
        x.dueWay("others in their place", 1, 0);
    }

    private static void dueTold(Player x, int[] want) {
        Due.is("price", x.price(), want[0]);
        Due.is("stuck", x.stuck(), want[1]);
        Due.is("ways(0)", x.ways(0), want[2]);
        Due.is("ways(300)", x.ways(300), want[3]);
    }

    private static void dropsItsStates() {
        Due.sentence("3 The last EVENT goes: its STATES too, when another with fewer comes in its place.");
        // From place 4 it were in time to 6, from 0 it is not.
        Player x = new Player(SLIDE).add(0, 10, 58);
        Due.is("places 0 and 4", x.ways(300), 2);
        Due.is("price", x.price(), 0);
        x.drop();
        x.add(0, 10, 46).add(50, 10, 40);
        Due.is("place 0", x.states(0), 1);
        Due.is("no state 1", x.state(0, 1, 1), BAD);
        Due.is("stuck", x.stuck(), 1);
        Due.is("price", x.price(), NONE);
        Due.is("ways", x.ways(300), 0);
        Player y = new Player(SLIDE).add(0, 10, 58).add(50, 10, 40);
        Due.is("from place 4", y.price(), 4);
        y.with(Player.BASE, 33);
        Due.is("places 3 and 6, and 5: another BASE", y.price(), 3);
        y.with(Player.BASE, 28);
        Due.is("place 1, and 0", y.price(), 1);
        y.with(Player.BASE, 29);
        Due.is("place 2, and 1", y.price(), 1);
    }

    private static void bound() {
        Due.sentence("4 A BOUND becomes v: which it was. BAD.");
        for (int instrument = 0; instrument < 5; instrument++) {
            Player x = new Player(instrument);
            for (int what : new int[] {LEAST, -2, -1, 10, 11, MOST}) {
                Due.is("bound(" + what + ", 50)", x.bound(what, 50), BAD);
            }
            Due.is("the first one", x.bound(0, 50), 10);
            Due.is("the last one", x.bound(9, 50), 76);
            Due.is("the first again", x.bound(0, 51), 50);
            Due.is("the same", x.bound(0, 51), 51);
            Due.is("one of both wrong", x.bound(-1, -1), BAD);
            Due.is("too much", x.bound(0, 101), BAD);
            Due.is("still the same", x.bound(0, 0), 51);
        }
    }

    private static void boundOfOthers() {
        Due.sentence("4 A BOUND becomes v: LOW may be above HIGH, and EVENTS stay.");
        Player x = new Player(SLIDE).add(0, 10, 60);
        Due.is("HIGH below LOW", x.bound(HIGH, 0), 127);
        Due.is("LOW above HIGH", x.bound(LOW, 127), 0);
        Due.is("the event is there", x.told(0), 1);
        Due.is("stuck", x.stuck(), 0);
        Due.is("LOW", x.bound(LOW, 0), 127);
        Due.is("HIGH", x.bound(HIGH, 127), 0);
        Due.is("not stuck", x.stuck(), NONE);
    }

    private static void pin() {
        Due.sentence("5 EVENT i is PINNED to the STATE of a number 0 .. 99, with -1 no more: which number it was (NONE). BAD.");
        for (int instrument = 0; instrument < 5; instrument++) {
            Player x = new Player(instrument);
            Due.is("no events", x.pin(0, 0), BAD);
            Due.is("no events, no more", x.pin(0, -1), BAD);
            x.add(0, 10, 60).add(50, 10, 60);
            for (int i : new int[] {LEAST, -2, -1, 2, 3, 40, MOST}) {
                Due.is("pin(" + i + ", 0)", x.pin(i, 0), BAD);
                Due.is("pin(" + i + ", -1)", x.pin(i, -1), BAD);
            }
            for (int state : new int[] {LEAST, -3, -2, 100, 101, MOST}) {
                Due.is("pin(1, " + state + ")", x.pin(1, state), BAD);
            }
            Due.is("none is pinned", x.told(4), 0);
            Due.is("no more, but it was not", x.pin(1, -1), NONE);
            Due.is("to 0", x.pin(1, 0), NONE);
            Due.is("to 99", x.pin(1, 99), 0);
            Due.is("to 100", x.pin(1, 100), BAD);
            Due.is("to -2", x.pin(1, -2), BAD);
            Due.is("to 98", x.pin(1, 98), 99);
            Due.is("the first one", x.pin(0, 1), NONE);
            Due.is("two are pinned", x.told(4), 2);
            Due.is("no more", x.pin(1, -1), 98);
            Due.is("no more again", x.pin(1, -1), NONE);
            Due.is("one is pinned", x.told(4), 1);
            Due.is("that is the first", x.about(0, 7), 1);
        }
    }

    private static void statesAndState() {
        Due.sentence("6 How many STATES an EVENT has. BAD.");
        for (int instrument = 0; instrument < 5; instrument++) {
            Player x = new Player(instrument);
            Due.is("no events", x.states(0), BAD);
            x.add(0, 10, 58).add(50, 10, 127);
            for (int i : new int[] {LEAST, -2, -1, 2, 40, MOST}) {
                Due.is("states(" + i + ")", x.states(i), BAD);
            }
            Due.is("the first", x.states(0), new int[] {5, 3, 1, 2, 2}[instrument]);
            Due.is("the last", x.states(1), new int[] {5, 0, 2, 0, 4}[instrument]);
        }
        Due.sentence("7 Of a STATE: what = 0 .. 2. BAD.");
        for (int instrument = 0; instrument < 5; instrument++) {
            Player x = new Player(instrument);
            Due.is("no events", x.state(0, 0, 0), BAD);
            x.add(0, 10, 58).add(50, 10, 127);
            int n = new int[] {5, 3, 1, 2, 2}[instrument];
            for (int what : new int[] {LEAST, -1, 3, MOST}) {
                Due.is("state(0, 0, " + what + ")", x.state(0, 0, what), BAD);
            }
            for (int what = 0; what < 3; what++) {
                for (int k : new int[] {LEAST, -1, n, n + 1, MOST}) {
                    Due.is("state(0, " + k + ", " + what + ")", x.state(0, k, what), BAD);
                }
                for (int i : new int[] {LEAST, -1, 2, MOST}) {
                    Due.is("state(" + i + ", 0, " + what + ")", x.state(i, 0, what), BAD);
                }
            }
            Due.is("the last state is there", x.state(0, n - 1, 0), new int[] {0, 1, 0, 0, 0}[instrument]);
            Due.is("a state where there are none", x.state(1, 0, 0), x.states(1) == 0 ? BAD : 0);
        }
    }

    private static void stateTells() {
        Due.sentence("7 KEYBOARD the PLACE (it may be -1), STRINGS t, STICKS OTHER (with both HANDS -1), else 0.");
        Player keyboard = new Player(KEYBOARD).addBy(RIGHT, 0, 10, 1);
        Due.is("PLACE 1", keyboard.state(0, 0, 2), 1);
        Due.is("PLACE -1", keyboard.state(0, 1, 2), -1);
        Due.is("PLACE -3", keyboard.state(0, 2, 2), -3);
        Due.is("its FINGER", keyboard.state(0, 1, 1), 2);
        Player strings = new Player(STRINGS).add(0, 10, 91);
        Due.is("POSITION 11", strings.state(0, 0, 1), 11);
        Due.is("t 3", strings.state(0, 0, 2), 3);
        Player wind = new Player(WIND).add(0, 10, 60).add(10, 10, 60);
        Due.is("j 1", wind.state(1, 1, 1), 1);
        Due.is("else 0", wind.state(1, 1, 2), 0);
        Player slide = new Player(SLIDE).add(0, 10, 40);
        Due.is("PLACE 6", slide.state(0, 0, 1), 6);
        Due.is("else 0", slide.state(0, 0, 2), 0);
        Player sticks = new Player(STICKS).add(0, 10, 40).add(10, 10, 40, 50).add(20, 10, 45);
        Due.is("HAND 1", sticks.state(0, 1, 1), 1);
        Due.is("OTHER -1", sticks.state(0, 1, 2), -1);
        Due.is("both", sticks.state(1, 0, 1), 2);
        Due.is("both: -1", sticks.state(1, 0, 2), -1);
        Due.is("OTHER 1", sticks.state(2, 0, 2), 1);
    }

    private static void step() {
        Due.sentence("8 NONE. BAD: also when there is no next one.");
        for (int instrument = 0; instrument < 5; instrument++) {
            Player x = new Player(instrument);
            Due.is("no events", x.step(0, 0, 0), BAD);
            x.add(0, 10, 58);
            Due.is("no next one", x.step(0, 0, 0), BAD);
            x.add(1000, 10, 58);
            int n = x.states(0);
            int m = x.states(1);
            Due.is("a step", x.step(0, 0, 0), instrument == STICKS ? 2 : 0);
            Due.holds("the last of both", x.step(0, n - 1, m - 1) != BAD);
            for (int i : new int[] {LEAST, -1, 1, 2, MOST}) {
                Due.is("step(" + i + ", 0, 0)", x.step(i, 0, 0), BAD);
            }
            for (int k : new int[] {LEAST, -1, n, MOST}) {
                Due.is("step(0, " + k + ", 0)", x.step(0, k, 0), BAD);
            }
            for (int l : new int[] {LEAST, -1, m, MOST}) {
                Due.is("step(0, 0, " + l + ")", x.step(0, 0, l), BAD);
            }
            x.pin(0, 99);
            x.pin(1, 99);
            Due.is("the step, whatever is pinned", x.step(0, 0, 0), instrument == STICKS ? 2 : 0);
        }
        Player none = new Player(SLIDE).add(0, 10, 58).add(10, 10, 60);
        Due.is("none", none.step(0, 0, 0), NONE);
        Due.is("none, but BAD first", none.step(0, 0, 2), BAD);
    }

    private static void price() {
        Due.sentence("9 The PRICE of THE WAY; NONE: there is none. (0 without EVENTS.)");
        for (int instrument = 0; instrument < 5; instrument++) {
            Player x = new Player(instrument);
            Due.is("without events", x.price(), 0);
            x.add(0, 10, 60);
            Due.is("of one", x.price(), instrument == STRINGS ? 1 : 0);
            x.with(LOW, 61);
            Due.is("of none", x.price(), NONE);
            x.drop();
            Due.is("without events again", x.price(), 0);
            x.add(0, 10, 60);
            Due.is("of none again", x.price(), NONE);
        }
    }

    private static void way() {
        Due.sentence("10 The STATE of EVENT i in THE WAY; NONE: there is none. BAD.");
        for (int instrument = 0; instrument < 5; instrument++) {
            Player x = new Player(instrument);
            Due.is("without events", x.way(0), BAD);
            x.add(0, 10, 60).add(1000, 10, 60);
            int[] due = {0, 1, 0, 0, 0};
            Due.is("the first", x.way(0), due[instrument]);
            Due.is("the last", x.way(1), instrument == STICKS ? x.find(1, 1, 0) : due[instrument]);
            for (int i : new int[] {LEAST, -1, 2, 40, MOST}) {
                Due.is("way(" + i + ")", x.way(i), BAD);
            }
            x.pin(1, 99);
            Due.is("none for the first", x.way(0), NONE);
            Due.is("none for the last", x.way(1), NONE);
            for (int i : new int[] {LEAST, -1, 2, 40, MOST}) {
                Due.is("BAD before NONE: way(" + i + ")", x.way(i), BAD);
            }
        }
    }

    private static void stuck() {
        Due.sentence("11 The least EVENT up to which (with it) its CHAIN can't be played by any row of STATES (PINNED as told) and STEPS; NONE.");
        for (int instrument = 0; instrument < 5; instrument++) {
            Player x = new Player(instrument);
            Due.is("without events", x.stuck(), NONE);
            x.add(0, 10, 60).add(1000, 10, 60).add(2000, 10, 60);
            Due.is("none", x.stuck(), NONE);
            for (int i = 2; i >= 0; i--) {
                x.pin(i, 99);
                Due.is("the least of all behind", x.stuck(), i);
            }
            x.pin(0, -1);
            Due.is("the next", x.stuck(), 1);
            x.drop();
            Due.is("the next still", x.stuck(), 1);
            x.drop();
            Due.is("none again", x.stuck(), NONE);
        }
        // The places: {0, 4}, {2, 5}, {6}: from 5 to 6 in time for 1, from 2 for 4.
        Player slide = new Player(SLIDE).add(0, 10, 58).add(100, 10, 60).add(139, 10, 40);
        Due.is("by 5", slide.stuck(), NONE);
        slide.pin(1, 0);
        Due.is("4 by 10 in 39: stuck at the last", slide.stuck(), 2);
        slide.with(MOVE, 9);
        Due.is("4 by 9 in 39", slide.stuck(), NONE);
        slide.with(MOVE, 40);
        slide.pin(1, 1);
        Due.is("1 by 40 in 39", slide.stuck(), 2);
        slide.with(MOVE, 100);
        Due.is("from 4 to 5, then none", slide.stuck(), 2);
        slide.pin(0, 0);
        Due.is("from 0 to 5 by 100 in 100", slide.stuck(), 1);
    }

    private static void stuckOfTwo() {
        Due.sentence("11 The least EVENT .. its CHAIN: of both CHAINS the least.");
        Player x = new Player(KEYBOARD).addBy(LEFT, 0, 10, 60).addBy(RIGHT, 0, 10, 60).addBy(LEFT, 1, 10, 90)
                .addBy(RIGHT, 1, 10, 90).addBy(LEFT, 2, 10, 90);
        Due.is("both are stuck", x.stuck(), 2);
        x.pin(1, 5);
        Due.is("the right one before", x.stuck(), 1);
        x.pin(0, 5);
        Due.is("the left one before", x.stuck(), 0);
        x.pin(0, 0);
        x.pin(1, 0);
        x.with(MOVE, 0);
        Due.is("none", x.stuck(), NONE);
        x.pin(4, 5);
        Due.is("the last", x.stuck(), 4);
        x.with(HIGH, 89);
        Due.is("both have no states", x.stuck(), 2);
    }

    private static void waysOfMost() {
        Due.sentence("12 How many WAYS have a PRICE of at most most (0 .. 300). BAD.");
        for (int instrument = 0; instrument < 5; instrument++) {
            Player x = new Player(instrument);
            for (int most : new int[] {LEAST, -300, -1, 301, 302, MOST}) {
                Due.is("ways(" + most + ")", x.ways(most), BAD);
            }
            Due.is("without events ways(0)", x.ways(0), 1);
            Due.is("without events ways(300)", x.ways(300), 1);
            x.add(0, 10, 60);
            Due.is("ways(0)", x.ways(0), new int[] {5, 0, 1, 1, 2}[instrument]);
            Due.is("ways(1)", x.ways(1), new int[] {5, 3, 1, 2, 2}[instrument]);
            Due.is("ways(2)", x.ways(2), new int[] {5, 4, 1, 2, 2}[instrument]);
            Due.is("ways(300)", x.ways(300), new int[] {5, 4, 1, 2, 2}[instrument]);
            for (int most : new int[] {LEAST, -1, 301, MOST}) {
                Due.is("ways(" + most + ") with an event", x.ways(most), BAD);
            }
            x.with(LOW, 61);
            Due.is("no ways", x.ways(300), 0);
            Due.is("no ways, but BAD", x.ways(301), BAD);
        }
    }

    /** A row of breaths that each event needs: its PRICE is 1 and 2 times what it lacks for each. */
    private static Player breaths(int breath, int firstRest, int secondRest) {
        return new Player(WIND).with(LUNG, 200).with(BREATH, breath).add(0, 200, 60).add(200 + firstRest, 200, 60)
                .add(400 + firstRest + secondRest, 200, 60);
    }

    private static void waysAbove300() {
        Due.sentence("12 WAYS of a PRICE of at most most: at 299, 300, and above 300.");
        Player even = breaths(100, 51, 0);
        Due.is("price 300", even.price(), 300);
        Due.is("ways(299)", even.ways(299), 0);
        Due.is("ways(300)", even.ways(300), 1);
        Player more = breaths(100, 50, 0);
        Due.is("price 302", more.price(), 302);
        Due.is("ways(300)", more.ways(300), 0);
        Due.is("it is not stuck", more.stuck(), NONE);
        more.dueWay("and has a way", 0, 0, 0);
        Player odd = new Player(WIND).with(LUNG, 200).with(BREATH, 150).add(0, 200, 60).add(200, 200, 60);
        Due.is("price 301", odd.price(), 301);
        Due.is("ways(300)", odd.ways(300), 0);
        odd.with(BREATH, 149);
        Due.is("price 299", odd.price(), 299);
        Due.is("ways(298)", odd.ways(298), 0);
        Due.is("ways(299)", odd.ways(299), 1);
        Player far = new Player(KEYBOARD).with(MOVE, 0);
        for (int i = 0; i < 40; i++) {
            far.addBy(RIGHT, i, 1, i % 2 == 0 ? 0 : 127);
        }
        Due.is("a price far above", far.price(), 39 * 119);
        Due.is("ways(300)", far.ways(300), 0);
    }

    private static void waysOfBothChains() {
        Due.sentence("12 How many WAYS: of both CHAINS together.");
        // One STATE and STEP a HAND: LEFT costs 6, RIGHT 6 and 11.
        Player x = new Player(KEYBOARD).with(MOVE, 0).addBy(LEFT, 0, 10, 60, 76).addBy(RIGHT, 0, 10, 60, 76)
                .addBy(RIGHT, 10, 10, 71, 87);
        Due.is("price", x.price(), 6 + 6 + 11 + 6);
        Due.is("ways(28)", x.ways(28), 0);
        Due.is("ways(29)", x.ways(29), 1);
        x.add(10, 10, 60);
        Due.is("five more of the left", x.ways(300), 5);
        Due.is("the least of them: from PLACE 76 to 68", x.price(), 29 + 8);
    }

    private static void waysAtMany() {
        Due.sentence("12 1000000000, if there are more.");
        Player just = new Player(KEYBOARD).with(MOVE, 0);
        for (int i = 0; i < 12; i++) {
            just.addBy(RIGHT, i, 1, 60);
        }
        Due.is("5 to the 12th", just.ways(300), 244140625);
        just.addBy(LEFT, 20, 1, 60, 64, 67);
        Due.is("4 times as many", just.ways(300), 976562500);
        just.addBy(LEFT, 30, 1, 60, 64, 67);
        Due.is("16 times as many", just.ways(300), MANY);
        Player ten = new Player(KEYBOARD).with(MOVE, 0);
        for (int i = 0; i < 8; i++) {
            ten.addBy(RIGHT, i, 1, 60, 61);
        }
        Due.is("10 to the 8th", ten.ways(300), 100000000);
        ten.addBy(RIGHT, 8, 1, 60, 61);
        Due.is("10 to the 9th, just as many", ten.ways(300), MANY);
        ten.addBy(LEFT, 9, 1, 60, 76);
        Due.is("one of the left to it", ten.ways(300), MANY);
        ten.pin(0, 0);
        Due.is("a tenth", ten.ways(300), 100000000);
        ten.pin(0, -1);
        ten.pin(9, 1);
        Due.is("none of the left to it", ten.ways(300), 0);
        ten.pin(9, 0);
        Due.is("again", ten.ways(300), MANY);
    }

    private static void waysFarAboveMany() {
        Due.sentence("12 1000000000, if there are more: as many more as can be.");
        Player slide = new Player(SLIDE).with(MOVE, 0);
        for (int i = 0; i < 40; i++) {
            slide.add(i, 1, 58);
            Due.is("2 to the " + (i + 1), slide.ways(300), i < 29 ? 1 << (i + 1) : MANY);
        }
        for (int instrument : new int[] {KEYBOARD, STRINGS, STICKS}) {
            Player x = new Player(instrument).with(MOVE, 0);
            for (int s = 0; s < 4; s++) {
                x.with(Player.OPEN + s, 60);
            }
            for (int i = 0; i < 40; i++) {
                x.playBy(instrument == KEYBOARD ? i % 2 : 0, i, 1, 60);
            }
            Due.is("forty events on " + instrument, x.told(0), 40);
            Due.is("ways(300) on " + instrument, x.ways(300), MANY);
            Due.is("ways(0) on " + instrument, x.ways(0), new int[] {25, 48, 0, 0, 2}[instrument]);
            x.pin(39, 99);
            Due.is("none on " + instrument, x.ways(300), 0);
        }
    }

    private static void told() {
        Due.sentence("13 How many EVENTS (0), of CHAINS 0, 1 (1, 2), which INSTRUMENT (3), of EVENTS that are PINNED (4). BAD.");
        for (int instrument = 0; instrument < 5; instrument++) {
            Player x = new Player(instrument).add(0, 10, 60).add(50, 10, 60).add(100, 10, 60);
            boolean two = instrument == KEYBOARD;
            if (two) {
                x.addBy(RIGHT, 100, 10, 60);
            }
            x.pin(0, 0);
            x.pin(2, 99);
            int[] want = {two ? 4 : 3, 3, two ? 1 : 0, instrument, 2};
            for (int what = 0; what < 5; what++) {
                Due.is("told(" + what + ")", x.told(what), want[what]);
            }
            for (int what : new int[] {LEAST, -2, -1, 5, 6, MOST}) {
                Due.is("told(" + what + ")", x.told(what), BAD);
            }
            x.pin(2, -1);
            Due.is("one is pinned", x.told(4), 1);
            x.pin(0, 1);
            Due.is("one is pinned still", x.told(4), 1);
        }
    }

    private static void about() {
        Due.sentence("14 0 HAND, 1 TIME, 2 LENGTH, 3 how many NOTES, 4 .. 6 these (-1: none), 7 the number it is PINNED to (NONE). BAD.");
        for (int instrument = 0; instrument < 5; instrument++) {
            Player x = new Player(instrument);
            Due.is("no events", x.about(0, 0), BAD);
            x.add(0, 1000, 0).add(100000, 1, 127);
            x.pin(1, 99);
            int[][] want = {{0, 0, 1000, 1, 0, -1, -1, NONE}, {0, 100000, 1, 1, 127, -1, -1, 99}};
            for (int what = 0; what < 8; what++) {
                Due.is("about(0, " + what + ")", x.about(0, what), want[0][what]);
                Due.is("about(1, " + what + ")", x.about(1, what), want[1][what]);
            }
            for (int what : new int[] {LEAST, -1, 8, 9, MOST}) {
                Due.is("about(0, " + what + ")", x.about(0, what), BAD);
            }
            for (int i : new int[] {LEAST, -1, 2, 40, MOST}) {
                for (int what : new int[] {0, 4, 7, 8}) {
                    Due.is("about(" + i + ", " + what + ")", x.about(i, what), BAD);
                }
            }
            x.pin(1, 0);
            Due.is("pinned to 0", x.about(1, 7), 0);
            x.pin(1, -1);
            Due.is("pinned no more", x.about(1, 7), NONE);
        }
        Player chords = new Player(KEYBOARD).addBy(RIGHT, 5, 6, 0, 1, 127).addBy(LEFT, 5, 6, 126, 127);
        int[][] want = {{1, 5, 6, 3, 0, 1, 127, NONE}, {0, 5, 6, 2, 126, 127, -1, NONE}};
        for (int what = 0; what < 8; what++) {
            Due.is("of three notes " + what, chords.about(0, what), want[0][what]);
            Due.is("of two notes " + what, chords.about(1, what), want[1][what]);
        }
    }

    private static void aboutAfterDrop() {
        Due.sentence("14 4 .. 6 these (-1: none): also when one with more NOTES was there before.");
        Player x = new Player(KEYBOARD).addBy(RIGHT, 0, 10, 60, 64, 67);
        x.drop();
        x.addBy(LEFT, 0, 10, 50);
        int[] want = {0, 0, 10, 1, 50, -1, -1, NONE};
        for (int what = 0; what < 8; what++) {
            Due.is("about(0, " + what + ")", x.about(0, what), want[what]);
        }
    }

    public static void main(String[] args) {
        newObject();
        numbers();
        missingNotes();
        timesAndLengths();
        notAboveItsChain();
        aheadOfTheEnd();
        belowTheLast();
        fitsAfterDrop();
        full();
        drop();
        dropPinned();
        dropUnlinks();
        dropAsIfItNeverCame();
        dropsItsStates();
        bound();
        boundOfOthers();
        pin();
        statesAndState();
        stateTells();
        step();
        price();
        way();
        stuck();
        stuckOfTwo();
        waysOfMost();
        waysAbove300();
        waysOfBothChains();
        waysAtMany();
        waysFarAboveMany();
        told();
        about();
        aboutAfterDrop();
        Due.end();
    }
}
