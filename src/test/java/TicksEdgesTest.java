/** Terms 2 and promises 11 to 16, sentence by sentence. The numbers are worked out by hand from the ticks. */
public final class TicksEdgesTest {
    private static final Check check = new Check();
    private static final int NONE = TurnDoor.NONE, FAR_DOWN = Integer.MIN_VALUE, FAR_UP = Integer.MAX_VALUE;
    private static final int LEAVES = 0, OPENING = 1, ROOM = 2, MOTOR = 3, DRAG = 4, GOVERNOR = 5, COLD = 6, STUCK = 7, FOLD = 8;
    private static final String TWELVE = "0sw;0sw;0sw;0sw;0sw;0sw;0hw;0hw;0hw;0hw;0hw;0hw";

    private static TurnDoor door(String people, int... settings) {
        return Check.door(people, settings);
    }

    /** A door that stands as long as nobody pushes by 9. */
    private static TurnDoor standing(String people, int... settings) {
        TurnDoor x = Check.door(people, MOTOR, 0, DRAG, 9);
        for (int i = 0; i + 1 < settings.length; i += 2) {
            x.set(settings[i], settings[i + 1]);
        }
        return x;
    }

    /** A door that makes one step in each tick: behind tick t its turn is t and 1. */
    private static TurnDoor steady(String people, int... settings) {
        TurnDoor x = Check.door(people, GOVERNOR, 1);
        for (int i = 0; i + 1 < settings.length; i += 2) {
            x.set(settings[i], settings[i + 1]);
        }
        return x;
    }

    private static void fate(String what, TurnDoor x, int person, int... want) {
        for (int i = 0; i < want.length; i++) {
            check.due(what + ": fate(" + person + ", " + i + ")", x.fate(person, i), want[i]);
        }
    }

    private static void at(String what, TurnDoor x, int tick, int... want) {
        for (int i = 0; i < want.length; i++) {
            check.due(what + ": at(" + tick + ", " + i + ")", x.at(tick, i), want[i]);
        }
    }

    private static void within(String what, TurnDoor x, int tick, int... want) {
        for (int i = 0; i < want.length; i++) {
            check.due(what + ": within(" + tick + ", " + i + ")", x.within(tick, i), want[i]);
        }
    }

    private static void firstTick() {
        check.says("TICKS 0 .. 119; TURN, SPEED (STEPS each TICK) are 0 at first");
        at("no motor", door("", MOTOR, 0), 0, 0, 0, 0, 0, 0);
        at("no motor", door("", MOTOR, 0), 119, 0, 0, 0, 0, 0);
        at("motor 20, drag 1: one more in the first tick alone", door("", MOTOR, 20, DRAG, 1, GOVERNOR, 3), 0, 1, 1, 0, 0, 0);
        check.due("steps in 120 ticks", steady("").all(4), 120);
        check.says("Who COMES now waits at its side");
        TurnDoor x = standing("0st;119sw");
        at("the first tick", x, 0, 0, 0, 0, 1, 0);
        at("ahead of the last tick", x, 118, 0, 0, 0, 1, 0);
        at("the last tick", x, 119, 0, 0, 0, 3, 0);
        x = standing("7sw");
        at("ahead of its tick", x, 6, 0, 0, 0, 0, 0);
        at("it steps in at once", x, 7, 0, 0, 1, 0, 0);
    }

    private static void speeds() {
        check.says("if it is DRAG times (SPEED and 1) or more, and SPEED is below GOVERNOR, SPEED is one more");
        for (int governor = 1; governor <= 3; governor++) {
            for (int drag = 1; drag <= 9; drag++) {
                TurnDoor x = door("", GOVERNOR, governor, DRAG, drag);
                for (int motor = 0; motor <= 20; motor++) {
                    x.set(MOTOR, motor);
                    int steps = 0;
                    for (int tick = 0; tick < 4; tick++) {
                        int speed = Math.min(tick + 1, Math.min(governor, motor / drag));
                        steps += speed;
                        String what = "motor " + motor + ", drag " + drag + ", governor " + governor;
                        check.due(what + ": at(" + tick + ", 1)", x.at(tick, 1), speed);
                        check.due(what + ": at(" + tick + ", 0)", x.at(tick, 0), steps);
                    }
                }
            }
        }
        check.says("Else PUSH is that of all inside and MOTOR, together");
        int[] pushes = {2, 1, 1, 0, 4, 2};
        for (int kind = 0; kind < 6; kind++) {
            // a walker of push 2 is there, too, so that a child may step in
            TurnDoor x = standing("0sw;0s" + "wbtchd".charAt(kind), ROOM, 4);
            x.set(DRAG, 2 + pushes[kind]);
            at("just the push of kind " + kind, x, 1, 1, 1, 3, 0, 0);
            x.set(DRAG, 3 + pushes[kind]);
            at("one less than drag, kind " + kind, x, 1, 0, 0, 3, 0, 0);
            x.set(MOTOR, 1);
            at("with one of the motor, kind " + kind, x, 1, 1, 1, 3, 0, 0);
        }
        at("who waits does not push", standing("0sw;0sw;0sw;0sw;0sw;0sw", ROOM, 4), 9, 0, 0, 15, 48, 0);
        at("who stepped in in this tick pushes from the next on", door("0sw", MOTOR, 0), 0, 0, 0, 1, 0, 0);
        at("those of both sides push", standing("0sw;0sw;0hw;0hw;0hw", ROOM, 3), 1, 1, 1, 31, 0, 0);
    }

    private static void slower() {
        check.says("if it is less than DRAG times SPEED, one less");
        // push 4 by drag 1: speeds 1, 2, 3; out at turn 5, the second of tick 3's steps; then 2, 1, 0
        TurnDoor x = door("0sh", MOTOR, 0, DRAG, 1, GOVERNOR, 3);
        int[][] want = {{0, 0}, {1, 1}, {3, 2}, {6, 3}, {8, 2}, {9, 1}, {9, 0}, {9, 0}};
        for (int tick = 0; tick < want.length; tick++) {
            at("a hurried one alone", x, tick, want[tick]);
        }
        fate("a hurried one alone", x, 0, 0, 3, 0, 0);
        // 1 and push 2 are just drag 3 at speed 1: it stays; 1 alone is less
        x = door("0sw", MOTOR, 1, DRAG, 3);
        at("just drag times speed", x, 1, 1, 1, 1, 0, 0);
        at("just drag times speed stays", x, 4, 4, 1, 1, 0, 0);
        at("it is out in this tick", x, 5, 5, 1, 0, 0, 0);
        at("less: one less, and it stands", x, 6, 5, 0, 0, 0, 0);
        // 2 and push 2 are just drag 2 at speed 2; behind it 2 are less than 4, but not than 2
        x = door("0sw");
        at("just drag times speed 2", x, 2, 5, 2, 0, 0, 0);
        at("one less", x, 3, 6, 1, 0, 0, 0);
        at("and no less than that", x, 119, 2, 1, 0, 0, 0);
        at("speed stays at 0", door("", MOTOR, 0), 50, 0, 0, 0, 0, 0);
    }

    private static void stuck() {
        check.says("If it is STUCK: SPEED is 0, and it is STUCK one TICK less");
        for (int ticks = 1; ticks <= 9; ticks++) {
            TurnDoor x = steady("0sb", STUCK, ticks);
            at("caught, stuck " + ticks, x, 0, 1, 1, 1, 0, ticks);
            for (int t = 1; t <= ticks; t++) {
                at("stuck " + ticks, x, t, 1, 0, 1, 0, ticks - t);
            }
            at("behind that, stuck " + ticks, x, ticks + 1, 2, 1, 1, 0, 0);
            fate("stuck " + ticks, x, 0, 0, ticks + 4, 0, 1);
            check.due("ticks at speed 0, stuck " + ticks, x.all(6), ticks);
        }
        check.says("then it is STUCK for so many TICKS from the next one on (it stays inside)");
        TurnDoor x = steady("0sb;0sb;0hb", ROOM, 4);
        at("three at once are stuck as long as one", x, 0, 1, 1, 7, 0, 3);
        within("all stay inside", x, 3, 3, 0, 4, 0);
        check.due("all are caught", x.all(5), 3);
        x = steady("0sb;1hw");
        at("others step in while it is stuck", x, 1, 1, 0, 3, 0, 2);
        x = steady("0sb;1hb");
        fate("nobody is caught while it is stuck", x, 1, 1, 7, 0, 0);
        // turn 1 still, in tick 4 turn 2: part 3 has share 2 there
        x = steady("0sb;4sb");
        fate("one is caught behind that again", x, 1, 4, 13, 0, 1);
        at("stuck again", x, 4, 2, 1, 3, 0, 3);
        at("a step short of out", x, 10, 5, 1, 2, 0, 0);
        x = steady("118sb", STUCK, 9);
        at("stuck at the end", x, 119, 11, 0, 1, 0, 8);
        x = steady("119sb", STUCK, 9);
        at("the last tick's share is wide", x, 119, 0, 1, 1, 0, 0);
    }

    private static void caught() {
        check.says("It is CAUGHT, if it is BAGGED or WHEELED, SPEED is 1, and the SHARE is just OPENING");
        for (int kind = 0; kind < 6; kind++) {
            char letter = "wbtchd".charAt(kind);
            boolean laden = kind == 1 || kind == 2;
            for (int side = 0; side < 2; side++) {
                String one = (side == 0 ? "s" : "h") + letter;
                // a child goes with a walker
                int it = kind == 3 ? 1 : 0;
                TurnDoor x = steady((kind != 3 ? "" : side == 0 ? "0sw;" : "0hw;") + "0" + one, ROOM, 4);
                check.due("share 2, opening 2: " + one, x.fate(it, 3), laden ? 1 : 0);
                x.delay(0, 1);
                x.delay(it, 1);
                check.due("share 2 of the next part: " + one, x.fate(it, 3), laden ? 1 : 0);
                x.delay(0, 2);
                x.delay(it, 2);
                check.due("share 3, opening 2: " + one, x.fate(it, 3), 0);
                check.due("it stepped in: " + one, x.fate(it, 0), 2);
                x.set(OPENING, 3);
                check.due("share 3, opening 3: " + one, x.fate(it, 3), laden ? 1 : 0);
                x.set(OPENING, 1);
                check.due("share 3, opening 1: " + one, x.fate(it, 3), 0);
                x.set(MOTOR, 0);
                x.set(DRAG, 9);
                x.set(OPENING, 3);
                check.due("speed 0: " + one, x.fate(it, 3), 0);
                check.due("it stepped in at speed 0: " + one, x.fate(it, 0), 2);
            }
        }
        // turn 2: part 3 has share 2, part 0 has share 1
        TurnDoor x = steady("1sw;1sw;1sb", OPENING, 1);
        fate("share 1, opening 1", x, 2, 1, 6, 0, 1);
        within("in the part of share 1", x, 1, 4, 0, 0, 3);
        x = steady("1sb", OPENING, 1);
        fate("share 2, opening 1", x, 0, 1, 6, 0, 0);
        within("in the part of share 2", x, 1, 0, 0, 0, 1);
        x = steady("0sb", LEAVES, 3, OPENING, 3);
        fate("three leaves: share 3 at turn 3, opening 3", x, 0, 2, 11, 2, 1);
    }

    private static void quickDoor() {
        check.says("A BAGGED or WHEELED one may not at SPEED 2 or more");
        for (int governor = 1; governor <= 3; governor++) {
            TurnDoor x = door("6sb;6hb", MOTOR, 20, DRAG, 1, GOVERNOR, governor);
            check.due("a bag, speed " + governor, x.at(6, 2), governor == 1 ? 3 : 0);
            check.due("a bag in the end, speed " + governor, x.all(0), governor == 1 ? 2 : 0);
            x = door("6st;6ht", MOTOR, 20, DRAG, 1, GOVERNOR, governor, ROOM, 3);
            check.due("wheels, speed " + governor, x.at(6, 2), governor == 1 ? 3 : 0);
            check.due("wheels in the end, speed " + governor, x.all(0), governor == 1 ? 2 : 0);
            x = door("6sw;6hh;7sd", MOTOR, 20, DRAG, 1, GOVERNOR, governor, OPENING, 1);
            check.due("others, speed " + governor, x.at(7, 2) | x.at(7, 3), 7);
            check.due("others in the end, speed " + governor, x.all(0), 3);
        }
        fate("at speed 0", standing("3sb"), 0, 3, NONE, 0, 0);
        // push 2 makes speed 2 at ticks 1 and 2; at tick 3 speed is 1 again, turn 6
        fate("it waits till speed is 1", door("0sw;1sb"), 1, 3, 8, 2, 0);
    }

    private static void stepOut() {
        check.says("behind each, of those inside, by numbers, who is in a PART that is OPEN at the side to which it wants steps out");
        // opening 3: part 0 is open to the hall at turn 6 alone; speeds 1, 2, 2, 2 go by it in the midst of tick 4
        TurnDoor x = door("0sh", OPENING, 3, MOTOR, 0);
        fate("out between two steps of a tick", x, 0, 0, 4, 0, 0);
        at("the part is not open any more behind the tick", x, 4, 7, 2, 0, 0, 0);
        check.due("open(1, 7)", x.open(1, 7), 0);
        for (int opening = 1; opening <= 3; opening++) {
            x = steady("2sw", OPENING, opening);
            // in at turn 3; share 1 at turn 7, 2 at 8, 3 at 9
            check.due("out at opening " + opening, x.fate(0, 1), 5 + opening);
            x = steady("2hw", OPENING, opening);
            check.due("out to the street at opening " + opening, x.fate(0, 1), 5 + opening);
            x = steady("3sw", OPENING, opening, LEAVES, 3);
            // three leaves: part 2 has sectors 0 to 3 at turn 4; share 1 at turn 7, 2 at 8, 3 at 9
            check.due("out of three leaves at opening " + opening, x.fate(0, 1), 5 + opening);
        }
        x = steady("0sw;0hw;0sw;0hw");
        at("nobody steps out ahead of it", x, 3, 4, 1, 15, 0, 0);
        at("all at once", x, 4, 5, 1, 0, 0, 0);
        check.says("it is THROUGH in this TICK");
        x = door("117sw");
        fate("the last tick", x, 0, 117, 119, 0, 0);
        check.due("all are through at 119", x.all(1), 119);
        check.due("how many", x.all(0), 1);
        x = door("118sw");
        fate("a tick too late", x, 0, 118, NONE, 0, 0);
        check.due("not all are through", x.all(1), 120);
        check.due("how many", x.all(0), 0);
        at("it is inside yet", x, 119, 1, 2, 1, 0, 0);
    }

    private static void dazed() {
        check.says("a DAZED one not as long as the PART is OPEN there the first time since it stepped in");
        for (int opening = 1; opening <= 3; opening++) {
            TurnDoor x = steady("2sd", OPENING, opening);
            fate("from the street, opening " + opening, x, 0, 2, 17 + opening, 0, 0);
            at("inside till then, opening " + opening, x, 16 + opening, (17 + opening) % 12, 1, 1, 0, 0);
            x = steady("2hd", OPENING, opening);
            fate("from the hall, opening " + opening, x, 0, 2, 17 + opening, 0, 0);
        }
        // part 0 goes by the hall at turn 6 in the midst of tick 4, at step 18 in the midst of tick 10
        TurnDoor x = door("0sd", OPENING, 3, MOTOR, 0, DRAG, 1, GOVERNOR, 2);
        fate("the first time between two steps of a tick", x, 0, 0, 10, 0, 0);
        at("the first time", x, 4, 7, 2, 1, 0, 0);
        x = steady("2sd;8sb", STUCK, 9);
        // at tick 8, turn 9, part 3 with the dazed one is open to the hall; share 3 is not just 2
        fate("one behind it", x, 0, 2, 19, 0, 0);
        x = steady("2sd;7sb", STUCK, 9);
        // turn 8: the bag is caught, the dazed one stands nine ticks in the open part and stays
        at("open, and it stands", x, 16, 8, 0, 3, 0, 0);
        fate("it stays as long as that", x, 0, 2, 28, 0, 0);
        x = steady("2sd;2sd;2hd", ROOM, 4);
        for (int p = 0; p < 3; p++) {
            fate("three of them", x, p, 2, 19, 0, 0);
        }
        fate("the others step out at once", steady("2sd;2sw"), 1, 2, 7, 0, 0);
        // opening 3: 18 steps from the street's middle to the hall's, the second time
        fate("just by the last tick", steady("101sd", OPENING, 3), 0, 101, 119, 0, 0);
        fate("not by the last tick", steady("104sd", OPENING, 3), 0, 104, NONE, 0, 0);
    }

    private static void warmth() {
        check.says("A PART that was OPEN to THE STREET and is not any more behind a STEP loses WARMTH");
        int[] firstClosed = {3, 2, 1};
        for (int leaves = 3; leaves <= 4; leaves++) {
            for (int opening = 1; opening <= 3; opening++) {
                TurnDoor x = steady("", LEAVES, leaves, OPENING, opening);
                for (int steps = 0; steps <= 30; steps++) {
                    x.set(FOLD, steps);
                    int first = firstClosed[opening - 1];
                    int closed = steps < first ? 0 : 1 + (steps - first) / (12 / leaves);
                    check.due(leaves + " leaves, opening " + opening + ", " + steps + " steps: all(3)", x.all(3), 2 * closed);
                    check.due(steps + " steps: all(4)", x.all(4), steps);
                }
            }
        }
        check.says("COLD times what its ROOM has left (0 at least)");
        for (int cold = 0; cold <= 9; cold += 3) {
            for (int room = 1; room <= 6; room++) {
                TurnDoor x = steady("", COLD, cold, ROOM, room, FOLD, 2);
                check.due("cold " + cold + ", room " + room, x.all(3), cold * room);
            }
        }
        check.due("the most of all", door("", COLD, 9, ROOM, 6, MOTOR, 20, DRAG, 1, GOVERNOR, 3).all(3), 119 * 54);
        // part 3, in which they step at turn 3, closes at turn 5; part 0 ahead of it is empty
        check.due("a bag in room 2", steady("2sb", FOLD, 5).all(3), 2);
        check.due("a bag in room 3", steady("2sb", FOLD, 5, ROOM, 3).all(3), 3 + 1);
        check.due("wheels in room 3", steady("2st", FOLD, 5, ROOM, 3).all(3), 3);
        check.due("one in room 1", steady("2sw", FOLD, 5, ROOM, 1).all(3), 1);
        check.due("two in room 2", steady("2sw;2sw", FOLD, 5).all(3), 2);
        check.due("one in room 2", steady("2sw", FOLD, 5).all(3), 2 + 1);
        check.due("one in room 2, a step short of closing", steady("2sw", FOLD, 4).all(3), 2);
        check.due("who goes to the street has left by then", steady("2hw", FOLD, 11).all(3), 4 * 2);
        // three leaves, opening 1: at turn 3 part 0 closes to the street and is open to the hall, where both step out
        check.due("what those leave who step out as it closes", steady("0sw;0sw", LEAVES, 3, OPENING, 1, FOLD, 3).all(3), 2);
        check.due("they are out by then", steady("0sw;0sw", LEAVES, 3, OPENING, 1, FOLD, 3).all(1), 2);
        check.due("between two steps of a tick", door("", FOLD, 2, MOTOR, 4).all(3), 2);
    }

    private static void line() {
        check.says("HURRIED ones first, of like ones who came earlier, then the lesser number");
        at("a hurried one of a greater number", standing("0sw;0sh", ROOM, 1), 0, 0, 0, 2, 1, 0);
        at("a hurried one of a lesser number", standing("0sh;0sw", ROOM, 1), 0, 0, 0, 1, 2, 0);
        at("two hurried ones", standing("0sw;0sh;0sh", ROOM, 2), 0, 0, 0, 6, 1, 0);
        at("of like ones the lesser number", standing("0sw;0sw;0sw", ROOM, 2), 0, 0, 0, 3, 4, 0);
        // opening 3: the street is open at turn 3 first, in tick 2
        at("a hurried one who came earlier, of a greater number", steady("1sh;0sh", ROOM, 1, OPENING, 3), 2, 3, 1, 2, 1, 0);
        at("one who came earlier, of a greater number", steady("1sw;0sw", ROOM, 1, OPENING, 3), 2, 3, 1, 2, 1, 0);
        at("a hurried one who came later", steady("0sw;2sh", ROOM, 1, OPENING, 3), 2, 3, 1, 2, 1, 0);
        // wheels stand ahead till leaves fold: two a tick tell the line
        TurnDoor x = standing("3st;5sw;4sw;4sw;6sh;5sh;5sh", FOLD, 6, ROOM, 1);
        // 5 and 6 came at 5 in a hurry: 5 steps in at once, 6 waits
        fate("the first hurried one steps in", x, 5, 5, 6, 0, 0);
        fate("a hurried one who came earlier", x, 6, NONE, 6, 1, 0);
        fate("a hurried one who came later", x, 4, NONE, 6, 0, 0);
        fate("then who came first of the others", x, 0, NONE, 7, 4, 0);
        fate("of like ones the lesser number", x, 2, NONE, 7, 3, 0);
        fate("of like ones the greater number", x, 3, NONE, 8, 4, 0);
        fate("who came last", x, 1, NONE, 8, 3, 0);
        check.says("the first one, if it may; then the one behind it, and so on up to the first that may not");
        at("wheels without room stop all behind them", standing("0sw;0st;0sw", ROOM, 3), 0, 0, 0, 1, 6, 0);
        at("one in a hurry goes ahead of them", standing("0st;0sw;0sh"), 0, 0, 0, 4, 3, 0);
        at("it stops its own side alone", standing("0st;0sw;0hw;0hw"), 0, 0, 0, 12, 3, 0);
        at("a child without a grown one stops all", standing("0sc;0sw"), 0, 0, 0, 0, 3, 0);
        at("twelve, six of each side, room for all", standing(TWELVE, ROOM, 6), 0, 0, 0, 4095, 0, 0);
        at("twelve, room for five of each side", standing(TWELVE, ROOM, 5), 0, 0, 0, 31 | 31 << 6, 1 << 5 | 1 << 11, 0);
    }

    private static void room() {
        check.says("has ROOM left for its size");
        for (int room = 1; room <= 6; room++) {
            int fit = (1 << room) - 1;
            at("walkers in room " + room, standing("0sw;0sw;0sw;0sw;0sw;0sw;0sw", ROOM, room), 0, 0, 0, fit, 127 & ~fit, 0);
            fit = (1 << room / 2) - 1;
            at("bags in room " + room, standing("0sb;0sb;0sb;0sb", ROOM, room), 0, 0, 0, fit, 15 & ~fit, 0);
            fit = (1 << room / 3) - 1;
            at("wheels in room " + room, standing("0ht;0ht;0ht", ROOM, room), 0, 0, 0, fit, 7 & ~fit, 0);
            at("a walker, then wheels in room " + room, standing("0sw;0st", ROOM, room), 0, 0, 0, room >= 4 ? 3 : 1, room >= 4 ? 0 : 2, 0);
            at("a bag, then wheels in room " + room, standing("0sb;0st", ROOM, room), 0, 0, 0,
                room >= 5 ? 3 : room >= 2 ? 1 : 0, room >= 5 ? 0 : room >= 2 ? 2 : 3, 0);
        }
        at("three leaves have no fourth part to take more", standing("0sw;0sw;0hw;0hw", LEAVES, 3, ROOM, 1), 0, 0, 0, 5, 10, 0);
        at("nor with opening 1", standing("0sw;0sw;0sw", LEAVES, 3, ROOM, 2, OPENING, 1), 0, 0, 0, 3, 4, 0);
        // who steps out in a tick leaves its room to who steps in
        TurnDoor x = steady("0sw;4hw", ROOM, 1);
        within("ahead of it", x, 3, 1, 0, 0, 0);
        within("behind it", x, 4, 2, 0, 0, 0);
        check.says("with the greatest SHARE there, of like ones the least number");
        within("turn 1, street", steady("0sw", OPENING, 1), 0, 1, 0, 0, 0);
        within("turn 2, street", steady("1sw", OPENING, 1), 1, 0, 0, 0, 1);
        within("turn 1, hall", steady("0hw", OPENING, 1), 0, 0, 0, 1, 0);
        within("turn 2, hall", steady("1hw", OPENING, 1), 1, 0, 1, 0, 0);
        within("three leaves, turn 1, street", steady("0sw", OPENING, 1, LEAVES, 3), 0, 1, 0, 0);
        within("three leaves, turn 2, street", steady("1sw", OPENING, 1, LEAVES, 3), 1, 0, 0, 1);
        within("three leaves, turn 3, hall", steady("2hw", OPENING, 1, LEAVES, 3), 2, 0, 1, 0);
        within("three leaves, turn 4, hall", steady("3hw", OPENING, 1, LEAVES, 3), 3, 1, 0, 0);
        within("the next part, if that is full", steady("1sw;1sw;1sw", OPENING, 1, ROOM, 1), 1, 2, 0, 0, 1);
        within("a bag past the part with room for one", steady("0sw;0sb", OPENING, 1, ROOM, 2), 0, 1, 0, 0, 2);
        check.due("who has room in neither waits", steady("1sw;1sw;1sw", OPENING, 1, ROOM, 1).at(1, 3), 4);
        check.due("no part is open", steady("0sw", OPENING, 3).at(0, 3), 1);
        check.due("till one is", steady("0sw", OPENING, 3).fate(0, 2), 2);
    }

    private static void children() {
        check.says("a CHILD only into a PART in which is one that is no CHILD");
        for (int kind = 0; kind < 6; kind++) {
            TurnDoor x = standing("0s" + "wbtchd".charAt(kind) + ";0sc", ROOM, 6);
            check.due("a child behind kind " + kind, x.at(0, 2), kind == 3 ? 0 : 3);
        }
        at("a child alone waits for ever", standing("0sc"), 119, 0, 0, 0, 1, 0);
        at("many with one grown one", standing("0sw;0sc;0sc;0sc;0sc;0sc", ROOM, 6), 0, 0, 0, 63, 0, 0);
        at("the grown one is in the hall's part", standing("0hw;0sc"), 0, 0, 0, 1, 2, 0);
        at("one in a hurry behind it goes ahead and takes it", standing("0sc;0sh"), 0, 0, 0, 3, 0, 0);
        at("it has no room", standing("0sw;0sw;0sc"), 0, 0, 0, 3, 4, 0);
        // the walker is out at tick 4; the child comes to the same part a tick ahead, or as it has gone
        fate("it comes behind the grown one", steady("0sw;0sc"), 1, 0, 4, 0, 0);
        fate("it comes as the part is open yet", door("0sw;1sc", MOTOR, 0, GOVERNOR, 1), 1, 1, 5, 0, 0);
        fate("it comes too late", steady("0sw;1sc"), 1, NONE, NONE, 119, 0);
        // a dazed one from the hall goes by the street: a child of the street steps in with it
        TurnDoor x = steady("2hd;8sc");
        fate("with one of the other side", x, 1, 8, 13, 0, 0);
        check.due("they shared", x.shared(0, 1), 1);
        // opening 1, turn 7: part 2 has share 2 and nobody inside, part 1 has share 1 and the dazed one
        x = steady("2hd;6sc", OPENING, 1);
        within("it takes the part of less share in which one is", x, 6, 0, 3, 0, 0);
    }

    private static void folds() {
        check.says("From TICK FOLD on LEAVES are folded: parts 2 to 4 are none; SPEED is 0, nothing STUCK");
        TurnDoor x = steady("", FOLD, 5);
        at("a tick ahead", x, 4, 5, 1, 0, 0, 0);
        at("folded", x, 5, 5, 0, 0, 0, 0);
        at("to the end", x, 119, 5, 0, 0, 0, 0);
        check.due("steps", x.all(4), 5);
        x.set(FOLD, 0);
        at("from the first", x, 0, 0, 0, 0, 0, 0);
        check.due("no steps", x.all(4), 0);
        check.due("no warmth", x.all(3), 0);
        x.set(FOLD, 119);
        at("in the last alone", x, 118, 11, 1, 0, 0, 0);
        at("in the last alone", x, 119, 11, 0, 0, 0, 0);
        x.set(FOLD, 120);
        at("never", x, 119, 0, 1, 0, 0, 0);
        x = steady("0sb", STUCK, 9, FOLD, 4);
        at("stuck ahead of it", x, 3, 1, 0, 1, 0, 6);
        at("nothing stuck", x, 4, 1, 0, 0, 0, 0);
        check.says("all inside are THROUGH at TICK FOLD");
        fate("one who was caught", x, 0, 0, 4, 0, 1);
        x = standing("0sw;0sd;0hd;0hc", FOLD, 119);
        fate("one of the street", x, 0, 0, 119, 0, 0);
        fate("a dazed one", x, 1, 0, 119, 0, 0);
        fate("one of the hall", x, 2, 0, 119, 0, 0);
        fate("a child", x, 3, 0, 119, 0, 0);
        within("they were inside", x, 118, 3, 0, 12, 0);
        within("nobody is", x, 119, 0, 0, 0, 0);
        check.due("the last", x.all(1), 119);
        x.set(FOLD, 120);
        check.due("never folded, never through", x.all(0), 0);
        foldedLines();
    }

    private static void foldedLines() {
        check.says("in each TICK (FOLD, too) two of each side (in the order of 4) are THROUGH");
        TurnDoor x = door("0sw;0sw;0sw;0hw;0hw;0hw;0hw;0hw", FOLD, 0);
        at("behind the first", x, 0, 0, 0, 0, 4 | 7 << 5, 0);
        at("behind the second", x, 1, 0, 0, 0, 1 << 7, 0);
        at("behind the third", x, 2, 0, 0, 0, 0, 0);
        fate("the second", x, 1, NONE, 0, 0, 0);
        fate("the third", x, 2, NONE, 1, 1, 0);
        fate("the fifth of the hall", x, 7, NONE, 2, 2, 0);
        check.due("ticks at speed 0 in which one waits behind it", x.all(6), 2);
        x = door(TWELVE, FOLD, 119);
        x.set(MOTOR, 0);
        x.set(DRAG, 9);
        // two of each side are inside and four of each side wait, of whom two go
        check.due("inside and two of each side", x.all(0), 8);
        at("who still waits", x, 119, 0, 0, 0, 3 << 4 | 3 << 10, 0);
        check.due("not all", x.all(1), 120);
        x = door("3sc;3st;3sh;3sw", FOLD, 3);
        fate("one in a hurry first", x, 2, NONE, 3, 0, 0);
        fate("then the least number, a child alone", x, 0, NONE, 3, 0, 0);
        fate("wheels without room", x, 1, NONE, 4, 1, 0);
        fate("the last", x, 3, NONE, 4, 1, 0);
        x = door("5sw;119hw", FOLD, 2);
        fate("one who comes behind that", x, 0, NONE, 5, 0, 0);
        fate("one who comes in the last tick", x, 1, NONE, 119, 0, 0);
        check.due("nobody waits behind a tick", x.all(6), 0);
        check.due("folded leaves are shared by none", door("0sw;0sw", FOLD, 0).shared(0, 1), 0);
    }

    private static void waits() {
        check.says("WAIT of one: from when it came till it stepped in (or went through folded LEAVES)");
        check.due("it stepped in as it came", steady("0sw").fate(0, 2), 0);
        check.due("opening 3: from tick 3 to 5", steady("3sw", OPENING, 3).fate(0, 2), 2);
        check.due("it was inside till leaves folded", standing("3sw", FOLD, 50).fate(0, 2), 0);
        check.due("it waited till leaves folded", standing("3st", FOLD, 50).fate(0, 2), 47);
        check.due("inside to the end", standing("3sw").fate(0, 2), 0);
        check.says("120 less when it came, if it still waits behind TICK 119");
        check.due("from tick 0 on", standing("0st").fate(0, 2), 120);
        check.due("from tick 119 on", standing("119st").fate(0, 2), 1);
        check.due("it stepped in in the last tick", standing("119sw").fate(0, 2), 0);
        check.due("it went in the last tick", standing("0st", FOLD, 119).fate(0, 2), 119);
        check.due("together", standing("0st;119st;119hw").all(2), 121);
    }

    private static void fates() {
        check.says("fate: 0 when it stepped in (NONE: not; not through folded LEAVES either), 1 when it was THROUGH (NONE: not by 119)");
        TurnDoor x = standing("0sw;0st;119hw");
        fate("in at the first tick", x, 0, 0, NONE, 0, 0);
        fate("never in", x, 1, NONE, NONE, 120, 0);
        fate("in at the last tick", x, 2, 119, NONE, 0, 0);
        x.set(FOLD, 119);
        fate("through folded leaves", x, 1, NONE, 119, 119, 0);
        check.says("fate: BAD");
        int[][] bad = {{-1, 0}, {3, 0}, {FAR_DOWN, 0}, {FAR_UP, 0}, {0, -1}, {0, 4}, {0, FAR_DOWN}, {0, FAR_UP}, {3, 4}};
        for (int[] b : bad) {
            check.due("fate(" + b[0] + ", " + b[1] + ")", x.fate(b[0], b[1]), TurnDoor.BAD);
        }
        check.due("the twelfth", standing(TWELVE).fate(11, 2), 120);
        check.due("no thirteenth", standing(TWELVE).fate(12, 2), TurnDoor.BAD);
    }

    private static void asked() {
        check.says("at: Behind a TICK (0 .. 119). BAD.");
        TurnDoor x = standing(TWELVE, ROOM, 5);
        int[][] bad = {{-1, 0}, {120, 0}, {FAR_DOWN, 0}, {FAR_UP, 0}, {0, -1}, {0, 5}, {0, FAR_DOWN}, {0, FAR_UP}};
        for (int[] b : bad) {
            check.due("at(" + b[0] + ", " + b[1] + ")", x.at(b[0], b[1]), TurnDoor.BAD);
        }
        check.due("who waits in the last tick", x.at(119, 3) & x.at(119, 2), 0);
        check.due("the last thing", x.at(119, 4), 0);
        check.says("Sets are bits");
        x = standing("0sw;0sw;0sw;0sw;0sw;0sw;0sw;0sw;0sw;0sw;0hw;0hw", ROOM, 1);
        at("number 11 waits", x, 0, 0, 0, 1 | 1 << 10, 1022 | 1 << 11, 0);
        x.delay(10, 5);
        within("number 11 is inside", x, 0, 1, 0, 1 << 11, 0);
        check.says("within: BAD: also a PART that is not there");
        int[][] none = {{-1, 0}, {120, 0}, {FAR_DOWN, 0}, {FAR_UP, 0}, {0, -1}, {0, 4}, {0, FAR_DOWN}, {0, FAR_UP}};
        for (int[] b : none) {
            check.due("within(" + b[0] + ", " + b[1] + ")", x.within(b[0], b[1]), TurnDoor.BAD);
        }
        check.due("part 3 of four, the last tick", x.within(119, 3), 0);
        x.set(LEAVES, 3);
        check.due("part 3 of three", x.within(0, 3), TurnDoor.BAD);
        check.due("part 2 of three", x.within(0, 2), 0);
        x.set(LEAVES, 4);
        check.due("part 3 of four again", x.within(0, 3), 0);
        check.says("count: 0 PEOPLE, 1 that want to THE HALL. BAD.");
        check.due("people", x.count(0), 12);
        check.due("to the hall", x.count(1), 10);
        check.due("all to the hall", standing("0sw;9sc").count(1), 2);
        check.due("none to the hall", standing("0hw;9hc").count(1), 0);
        int[] whats = {-1, 2, FAR_DOWN, FAR_UP};
        for (int what : whats) {
            check.due("count(" + what + ")", x.count(what), TurnDoor.BAD);
        }
    }

    private static void inAll() {
        check.says("In all: 0 THROUGH by TICK 119 (how many), 1 when the last was THROUGH (120: not all), 2 WAITS together ..");
        TurnDoor x = door("117sw;0hc");
        check.due("one of two is through", x.all(0), 1);
        check.due("not all", x.all(1), 120);
        check.due("waits", x.all(2), 120);
        x = door("117sw;117sc");
        check.due("both", x.all(0), 2);
        check.due("in the last tick", x.all(1), 119);
        check.due("nobody's last", new TurnDoor().all(1), 0);
        check.due("all twelve", door(TWELVE, ROOM, 6, FOLD, 1).all(0), 12);
        check.due("the fullest wait", standing("0st;0st;0st;0st;0st;0st;0ht;0ht;0ht;0ht;0ht;0ht").all(2), 1440);
        check.due("the most steps", door("", MOTOR, 20, DRAG, 1, GOVERNOR, 3).all(4), 357);
        check.due("the fullest caught", steady("0sb;0sb;0sb;1hb;0hb;0hb", ROOM, 6).all(5), 5);
        check.says("6 TICKS in which SPEED was 0 while somebody was inside or waited (behind each)");
        check.due("one inside", standing("0sw").all(6), 120);
        check.due("one waits", standing("119st").all(6), 1);
        check.due("nobody is there", standing("").all(6), 0);
        check.due("one comes in the tick", standing("50sw").all(6), 70);
        check.due("it moves", steady("0st").all(6), 0);
        check.due("the tick in which one steps in, not that in which one steps out", door("0sw", MOTOR, 0).all(6), 1);
        int[] whats = {-1, 7, FAR_DOWN, FAR_UP};
        check.says("all: BAD");
        for (int what : whats) {
            check.due("all(" + what + ")", x.all(what), TurnDoor.BAD);
        }
    }

    private static void company() {
        check.says("Two SHARED, if they were in one PART at once");
        check.due("both in part 0", steady("0sw;0sw").shared(0, 1), 1);
        check.due("the other way round", steady("0sw;0sw").shared(1, 0), 1);
        check.due("part 0 and part 2", steady("0sw;0hw").shared(0, 1), 0);
        TurnDoor x = steady("0sw;12sw");
        within("one", x, 0, 1, 0, 0, 0);
        within("the other in the same part, a turn later", x, 12, 2, 0, 0, 0);
        check.due("not at once", x.shared(0, 1), 0);
        x = steady("0sw;4hw");
        within("one", x, 3, 1, 0, 0, 0);
        within("the other in the tick in which it stepped out", x, 4, 2, 0, 0, 0);
        check.due("not at once, either", x.shared(0, 1), 0);
        x = standing("119sw;119sw;0st");
        check.due("not behind one who stops them", x.shared(0, 1), 0);
        check.due("in the last tick alone", standing("119sw;119sw").shared(0, 1), 1);
        x = standing("0sw;0sw;0sw;0sw;0sw;0sw;0hw;0hw;0hw;0hw;0hw;0hw", ROOM, 6);
        for (int one = 0; one < 12; one++) {
            for (int other = 0; other < 12; other++) {
                check.due(one + " and " + other, x.shared(one, other), one == other ? TurnDoor.BAD : one / 6 == other / 6 ? 1 : 0);
            }
        }
        check.says("shared: BAD: also one");
        int[][] bad = {{0, 0}, {11, 11}, {-1, 0}, {0, -1}, {12, 0}, {0, 12}, {-1, -1}, {12, 12}, {FAR_DOWN, 0}, {0, FAR_UP}};
        for (int[] b : bad) {
            check.due("shared(" + b[0] + ", " + b[1] + ")", x.shared(b[0], b[1]), TurnDoor.BAD);
        }
    }

    public static void main(String[] args) {
        firstTick();
        speeds();
        slower();
        stuck();
        caught();
        quickDoor();
        stepOut();
        dazed();
        warmth();
        line();
        room();
        children();
        folds();
        waits();
        fates();
        asked();
        inAll();
        company();
        check.end("TicksEdgesTest");
    }
}
