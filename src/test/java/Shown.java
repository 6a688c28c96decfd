import java.util.Arrays;

/** Doors in four states, and all that later calls show of a door, in eight aspects of less than 440 calls each. */
final class Shown {
    static final int NEW = 0, CROWDED = 1, TYPED = 2, STUCK = 3, STATES = 4;
    static final int TAPE = 5, ASPECTS = 8;

    private Shown() {
    }

    /** Nobody has asked this door anything yet: when people are through is asked of another one. */
    static TurnDoor build(int state) {
        TurnDoor x = peopled(state);
        if (state != NEW) {
            TurnDoor like = peopled(state);
            x.sheet(0, 0, 16);
            for (int p = 0; p < 8; p++) {
                x.item(0, 0, 2 * p, p);
                x.item(0, 0, 2 * p + 1, like.fate(p, 1) < 0 ? 120 : like.fate(p, 1));
            }
            x.sheet(1, 1, 3);
            x.item(1, 1, 1, 120);
            x.sheet(2, 2, 0);
        }
        return x;
    }

    private static TurnDoor peopled(int state) {
        TurnDoor x = new TurnDoor();
        if (state == CROWDED) {
            Check.come(x, "3hd;4sb;9sc;9hw;2sw");
            x.set(2, 5);
            x.image();
            x.clear();
            Check.come(x, "0sw;1hb;2st;3hc;4sh;4sd;7hd;9sb;9sc;12hw;12sw;30hh");
            int[] others = {3, 1, 4, 5, 3, 3, 7, 2, 40};
            for (int what = 0; what < 9; what++) {
                x.set(what, others[what]);
            }
            Check.typed(x, "7hw;8");
        } else if (state == TYPED) {
            Check.come(x, "0sw;0hw;3sb;9hh;9sd;12hc;12hw;13st");
            Check.typed(x, " 1sw ;  2hb;3   st;   4hc;5sh;6hd;         7sw    ;8                hb          ");
        }
        if (state == STUCK) {
            // at the end of the ticks it is stuck yet, with people inside
            Check.come(x, "0sw;0sw;115sb;115hw;3hw;4sd;20hh;21sw");
            x.set(5, 1);
            x.set(7, 9);
        }
        return x;
    }

    /** What was worked out already must stand as well. */
    static void warm(TurnDoor x) {
        x.all(1);
        x.motor(119);
        x.warmest(60, 3);
        x.orders(7, -1);
        x.times(0, 0, 0, 1, 0);
        x.without(0);
    }

    private static final class Answers {
        private int[] row = new int[512];
        private int n;

        void add(int answer) {
            row[n] = answer;
            n++;
        }

        int[] all() {
            return Arrays.copyOf(row, n);
        }
    }

    private static void settings(TurnDoor x, Answers to) {
        for (int i = 0; i < 24; i++) {
            to.add(x.open(i / 12, i % 12));
            to.add(x.share(i % 4, i / 12, i % 12));
        }
        for (int what = 0; what < 9; what++) {
            to.add(x.set(what, what == 0 ? 4 : 1));
        }
    }

    private static void people(TurnDoor x, Answers to) {
        to.add(x.count(0));
        to.add(x.count(1));
        for (int p = 0; p < 12; p++) {
            for (int what = 0; what < 5; what++) {
                to.add(x.told(p, what));
                to.add(x.fate(p, what));
            }
            for (int other = 0; other < p; other++) {
                to.add(x.shared(p, other));
            }
            to.add(x.without(p));
        }
        for (int what = 0; what < 7; what++) {
            to.add(x.all(what));
        }
    }

    private static void ticks(TurnDoor x, int from, Answers to) {
        for (int tick = from; tick < from + 60; tick++) {
            for (int what = 0; what < 5; what++) {
                to.add(x.at(tick, what));
            }
            if (tick % 3 != 0) {
                to.add(x.within(tick, 0));
                to.add(x.within(tick, 2));
                to.add(x.within(tick, tick % 3));
            }
        }
    }

    private static void wouldBe(TurnDoor x, Answers to) {
        for (int tick = 0; tick < 120; tick += 6) {
            to.add(x.motor(tick));
            to.add(x.warmest(tick, tick / 6 % 4));
        }
        for (int i = -2; i < 3; i++) {
            to.add(x.orders(7, i));
            to.add(x.orders(1 << 7 | 3, i));
        }
    }

    private static void tape(TurnDoor x, Answers to) {
        x.clear();
        to.add(x.type('s', 1));
        to.add(x.type('d', 1));
        to.add(x.people());
        to.add(x.type('3' << 16 | 'h' << 8 | 'c', 3));
        to.add(x.people());
        for (int p = 0; p < 8; p++) {
            for (int what = 0; what < 3; what++) {
                to.add(x.told(p, what));
            }
        }
    }

    private static void sheets(TurnDoor x, Answers to) {
        for (int sheet = 0; sheet < 4; sheet++) {
            for (int lane = 0; lane < 3; lane++) {
                to.add(x.item(sheet, lane, -1, 0));
                for (int from = 0; from < 16; from++) {
                    to.add(x.times(sheet, lane, from, 1, 0));
                }
            }
            to.add(x.drop(sheet));
        }
    }

    private static void image(TurnDoor x, Answers to) {
        to.add(x.restore());
        people(x, to);
        settings(x, to);
    }

    static int[] by(TurnDoor x, int aspect) {
        Answers to = new Answers();
        switch (aspect) {
            case 0 -> settings(x, to);
            case 1 -> people(x, to);
            case 2 -> ticks(x, 0, to);
            case 3 -> ticks(x, 60, to);
            case 4 -> wouldBe(x, to);
            case TAPE -> tape(x, to);
            case 6 -> sheets(x, to);
            default -> image(x, to);
        }
        return to.all();
    }
}
