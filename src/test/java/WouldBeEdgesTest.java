/** Terms 3 and promises 17 to 23, sentence by sentence. */
public final class WouldBeEdgesTest {
    private static final Check check = new Check();
    private static final int BAD = TurnDoor.BAD, NONE = TurnDoor.NONE, NOT = TurnDoor.NOT;
    private static final int FAR_DOWN = Integer.MIN_VALUE, FAR_UP = Integer.MAX_VALUE;
    private static final int LEAVES = 0, OPENING = 1, ROOM = 2, MOTOR = 3, DRAG = 4, GOVERNOR = 5, COLD = 6, FOLD = 8;
    private static final String TWELVE = "0sw;0hw;1sb;2hb;3sh;4hh;5sd;6hd;7sw;8hw;9sw;9sc";

    /** People, and room, drag, motor, cold, a tick and the warmth lost, by which each of the 18 doors is the warmest. */
    private static final String[] WARMEST_FOR = {
        "1sh", "6sh", "0sd", "1sh", "1sh", "1sh", "5ht;0ht", "0ht;7sh", "2sb;6hd", "6sh", "9st", "3sw", "7st;5sh",
        "1ht;7hh", "0ht;7sb;2ht", "3st;8sc", "2sd;7hc", "1sh;2hd;0sd"};
    private static final int[][] WARMEST = {
        {1, 6, 16, 1, 6, 30}, {4, 5, 17, 2, 7, 480}, {4, 3, 18, 2, 5, 710}, {1, 6, 16, 1, 7, 29},
        {1, 6, 16, 1, 4, 59}, {1, 6, 16, 1, 3, 59}, {5, 2, 5, 3, 16, 435}, {4, 2, 1, 3, 15, 21},
        {6, 1, 1, 2, 13, 390}, {4, 5, 17, 2, 9, 318}, {4, 9, 17, 1, 11, 157}, {4, 2, 5, 3, 4, 957},
        {3, 7, 15, 3, 16, 339}, {4, 6, 7, 2, 11, 320}, {5, 2, 16, 2, 10, 1116}, {5, 2, 7, 2, 14, 382},
        {4, 1, 8, 2, 13, 636}, {1, 2, 15, 3, 8, 345}};

    private static TurnDoor door(String people, int... settings) {
        return Check.door(people, settings);
    }

    private static void leastMotor() {
        check.says("THE LEAST MOTOR by which all are THROUGH by a TICK (that one, too)");
        // no motor: push 2 is drag 2, out at turn 5 in tick 5; motor 2: turns 1, 3, 5
        TurnDoor x = door("0sw");
        check.due("motor(5)", x.motor(5), 0);
        check.due("motor(4)", x.motor(4), 2);
        check.due("motor(2)", x.motor(2), 2);
        check.due("motor(1)", x.motor(1), NONE);
        check.due("the first tick", x.motor(0), NONE);
        check.due("the last tick", x.motor(119), 0);
        check.due("the motor is as it was", x.set(MOTOR, 7), 2);
        check.due("what it is does not matter", x.motor(4), 2);
        check.due("through at the first tick", door("0sw", FOLD, 0).motor(0), 0);
        check.due("in the last tick by motor 2", door("117sw").motor(119), 2);
        check.due("a tick less", door("117sw").motor(118), NONE);
        // motor 20, and push 4 are just three times 8: turns 1, 3, 6, 9
        x = door("1sh", OPENING, 3, DRAG, 8, GOVERNOR, 3);
        check.due("the greatest of all", x.motor(3), 20);
        check.due("a tick more", x.motor(4), 16);
        check.due("a tick less", x.motor(2), NONE);
        check.says("NONE: by none of 0 .. 20");
        x = door("1sw", OPENING, 3, DRAG, 8, GOVERNOR, 3);
        check.due("22 would do, push being 2", x.motor(3), NONE);
        check.due("a tick more", x.motor(4), 16);
        check.due("a child alone", door("0sc").motor(119), NONE);
        x = door("6sb");
        check.due("one with a bag, who pushes 1", x.motor(119), 1);
        x.set(MOTOR, 20);
        check.due("more is worse for one who fears a quick door", x.all(1), 120);
        check.due("nobody", new TurnDoor().motor(0), 0);
        check.says("motor: BAD");
        int[] bad = {-1, 120, FAR_DOWN, FAR_UP};
        for (int tick : bad) {
            check.due("motor(" + tick + ")", x.motor(tick), BAD);
            check.due("BAD ahead of NONE: motor(" + tick + ")", door("0sc").motor(tick), BAD);
        }
    }

    /** All 18 doors by calls of set; the best for each tick. */
    private static void warmestOf(String people, int... settings) {
        int[][] found = new int[18][];
        TurnDoor y = door(people, settings);
        for (int i = 0; i < 18; i++) {
            int[] is = {3 + i / 9, 1 + i / 3 % 3, 1 + i % 3};
            y.set(LEAVES, is[0]);
            y.set(OPENING, is[1]);
            y.set(GOVERNOR, is[2]);
            found[i] = new int[] {is[0], is[1], is[2], y.all(3), y.all(1)};
        }
        TurnDoor x = door(people, settings);
        for (int tick = 0; tick < 120; tick += tick < 60 ? 1 : 7) {
            int[] best = null;
            for (int[] f : found) {
                best = f[4] <= tick && (best == null || f[3] < best[3]) ? f : best;
            }
            for (int what = 0; what < 4; what++) {
                check.due("'" + people + "' warmest(" + tick + ", " + what + ")", x.warmest(tick, what),
                    best == null ? NONE : best[what]);
            }
        }
    }

    private static void warmest(String what, TurnDoor x, int tick, int... want) {
        for (int i = 0; i < 4; i++) {
            check.due(what + ": warmest(" + tick + ", " + i + ")", x.warmest(tick, i), want.length == 1 ? want[0] : want[i]);
        }
    }

    private static void warmestDoors() {
        check.says("LEAVES, OPENING, GOVERNOR by which the least WARMTH is lost, all being THROUGH by a TICK");
        warmestOf("0sw");
        warmestOf("0sw;0hw;3sb;9hh");
        warmestOf("0sw;0hw;3sb;9hh", COLD, 0);
        warmestOf("2sd;2hc;2hw;4hb", ROOM, 4, COLD, 9);
        warmestOf(TWELVE, ROOM, 6, MOTOR, 6);
        for (int i = 0; i < WARMEST.length; i++) {
            int[] is = WARMEST[i];
            warmest("each of the 18 doors", door(WARMEST_FOR[i], ROOM, is[0], DRAG, is[1], MOTOR, is[2], COLD, is[3]), is[4],
                3 + i / 9, 1 + i / 3 % 3, 1 + i % 3, is[5]);
            warmestOf(WARMEST_FOR[i], ROOM, is[0], DRAG, is[1], MOTOR, is[2], COLD, is[3]);
        }
        check.says("of like ones the first (3 LEAVES first, then the least OPENING, then the least GOVERNOR)");
        warmest("no warmth at all", door("", COLD, 0), 0, 3, 1, 1, 0);
        warmest("nobody", new TurnDoor(), 0, 3, 1, 1, 60);
        warmest("nobody, as many steps by any governor", new TurnDoor(), 119, 3, 1, 1, 60);
        // three leaves, opening 1: at turn 1 in; turn 3 out: tick 2 by governor 1, ticks 1 by governor 2
        TurnDoor x = door("0sw", COLD, 0);
        warmest("governor 1 in time", x, 2, 3, 1, 1, 0);
        warmest("governor 2 alone in time", x, 1, 3, 1, 2, 0);
        warmest("NONE: by none", x, 0, NONE);
        warmest("NONE: by none", door("0sc"), 119, NONE);
        warmest("folded at once", door("0sc", FOLD, 0), 0, 3, 1, 1, 0);
        check.due("leaves are as they were", x.set(LEAVES, 4), 4);
        check.due("opening is as it was", x.set(OPENING, 2), 2);
        check.due("governor is as it was", x.set(GOVERNOR, 2), 2);
        check.says("warmest: BAD");
        int[][] bad = {{-1, 0}, {120, 0}, {FAR_DOWN, 0}, {FAR_UP, 0}, {0, -1}, {0, 4}, {0, FAR_DOWN}, {0, FAR_UP}};
        for (int[] b : bad) {
            check.due("warmest(" + b[0] + ", " + b[1] + ")", x.warmest(b[0], b[1]), BAD);
            check.due("BAD ahead of NONE", door("0sc").warmest(b[0], b[1]), BAD);
        }
    }

    private static void orders(String what, TurnDoor x, int some, int last, int waits, int... row) {
        check.due(what + ": orders(" + some + ", -1)", x.orders(some, -1), last);
        check.due(what + ": orders(" + some + ", -2)", x.orders(some, -2), waits);
        for (int i = 0; i < row.length; i++) {
            check.due(what + ": orders(" + some + ", " + i + ")", x.orders(some, i), row[i]);
        }
        check.due(what + ": behind the row", x.orders(some, row.length), BAD);
        check.due(what + ": ahead of -2", x.orders(some, -3), BAD);
    }

    private static void orders() {
        check.says("ORDERS of up to 6 told PEOPLE (a set): when they come is dealt anew among them (each of these TICKS to one)");
        TurnDoor x = door("0sw");
        orders("one alone", x, 1, 2, 0, 0);
        x = door("9sw;0st");
        orders("wheels never go; they come last", x, 3, 120, 111, 0, 1);
        x = door("0st;9sw");
        orders("wheels never go; they come last", x, 3, 120, 111, 1, 0);
        orders("one of them keeps its tick", x, 1, 120, 120 + 111, 0);
        orders("the other one, too", x, 2, 120, 120 + 111, 1);
        check.due("nobody has been delayed", x.told(1, 0), 9);
        check.says("of like ones the first as a row (for TICKS, the least first, of like ones that of the lesser number first, who of them)");
        orders("two sides, alike by a half turn", door("9sw;0hw"), 3, 12, 0, 0, 1);
        // turn 5 at tick 4: in; turns 7, 9, and 11 at tick 7: out
        orders("two who come at once", door("4sw;4sw"), 3, 7, 0, 0, 1);
        orders("one tick for all six", door("4sw;4sw;4sw;4sw;4sw;4sw", ROOM, 6), 63, 7, 0, 0, 1, 2, 3, 4, 5);
        orders("twelve, the last six", door("4sw;4sw;4sw;4sw;4sw;4sw;4hw;4hw;4hw;4hw;4hw;4hw", ROOM, 6), 63 << 6, 7, 0, 6, 7, 8, 9, 10, 11);
        check.says("that by which the last of all PEOPLE is THROUGH earliest (120: not)");
        orders("one beside them is never through", door("9sw;0sw;3ht"), 3, 120, 117, 0, 1);
        x = door("0sw;0hw;3sb;9hh");
        int last = 120;
        int waits = FAR_UP;
        int[][] rows = {{0, 1, 2, 3}, {0, 1, 3, 2}, {0, 2, 1, 3}, {0, 2, 3, 1}, {0, 3, 1, 2}, {0, 3, 2, 1}, {1, 0, 2, 3},
            {1, 0, 3, 2}, {1, 2, 0, 3}, {1, 2, 3, 0}, {1, 3, 0, 2}, {1, 3, 2, 0}, {2, 0, 1, 3}, {2, 0, 3, 1}, {2, 1, 0, 3},
            {2, 1, 3, 0}, {2, 3, 0, 1}, {2, 3, 1, 0}, {3, 0, 1, 2}, {3, 0, 2, 1}, {3, 1, 0, 2}, {3, 1, 2, 0}, {3, 2, 0, 1}, {3, 2, 1, 0}};
        int[] best = rows[0];
        TurnDoor y = door("0sw;0hw;3sb;9hh");
        for (int[] row : rows) {
            y.delay(row[0], 0);
            y.delay(row[1], 0);
            y.delay(row[2], 3);
            y.delay(row[3], 9);
            if (y.all(1) < last || y.all(1) == last && y.all(2) < waits) {
                last = y.all(1);
                waits = y.all(2);
                best = row;
            }
        }
        orders("four of them", x, 15, last, waits, best);
        backwards();
        ordersRefused();
    }

    /** Six whose best row is the last of all 720: every other one is worse, each tried on a door of its own. */
    private static void backwards() {
        String[] who = {"sc", "sh", "hc", "sd", "hd", "hb"};
        int[] ticks = {0, 4, 6, 9, 10, 11};
        TurnDoor x = door("0sc;11sh;6hc;9sd;4hd;10hb", ROOM, 4);
        orders("the last row of all", x, 63, 15, 0, 5, 4, 3, 2, 1, 0);
        int tried = 0;
        for (int code = 0; code < 46656; code++) {
            int[] tickOf = new int[6];
            int seen = 0;
            for (int i = 0, left = code; i < 6; i++, left /= 6) {
                seen |= 1 << left % 6;
                tickOf[left % 6] = ticks[i];
            }
            if (seen == 63) {
                StringBuilder people = new StringBuilder();
                for (int p = 0; p < 6; p++) {
                    people.append(p == 0 ? "" : ";").append(tickOf[p]).append(who[p]);
                }
                TurnDoor y = door(people.toString(), ROOM, 4);
                tried++;
                check.holds(people + " is worse", tickOf[0] == 11 && tickOf[1] == 10 && tickOf[2] == 9 && tickOf[3] == 6 && tickOf[4] == 4
                    || y.all(1) > 15 || y.all(1) == 15 && y.all(2) > 0);
            }
        }
        check.due("rows", tried, 720);
    }

    private static void ordersRefused() {
        check.says("orders: BAD: also none, more than 6");
        TurnDoor x = door(TWELVE);
        check.due("none", x.orders(0, -1), BAD);
        check.due("six", x.orders(63, -1) >= 0 ? 1 : 0, 1);
        check.due("the last six", x.orders(63 << 6, -1) >= 0 ? 1 : 0, 1);
        check.due("seven", x.orders(127, -1), BAD);
        check.due("the last seven", x.orders(127 << 5, -1), BAD);
        check.due("all", x.orders(4095, -1), BAD);
        check.due("the twelfth alone", x.orders(1 << 11, 0), 11);
        check.due("the thirteenth alone", x.orders(1 << 12, 0), BAD);
        check.due("the thirteenth, too", x.orders(1 << 12 | 1, 0), BAD);
        check.due("the highest bit", x.orders(FAR_DOWN, 0), BAD);
        check.due("the highest bit, too", x.orders(FAR_DOWN | 1, 0), BAD);
        check.due("all bits", x.orders(-1, 0), BAD);
        check.due("i below", x.orders(3, -3), BAD);
        check.due("i behind", x.orders(3, 2), BAD);
        check.due("i far below", x.orders(3, FAR_DOWN), BAD);
        check.due("i far above", x.orders(3, FAR_UP), BAD);
        check.due("i, the last of six", x.orders(63, 6), BAD);
        x = door("0sw;0sw");
        check.due("both", x.orders(3, 1), 1);
        check.due("the third is not there", x.orders(4, 0), BAD);
        check.due("the third, too", x.orders(7, 0), BAD);
        check.due("nobody is there", new TurnDoor().orders(1, 0), BAD);
        check.due("nobody is there, none", new TurnDoor().orders(0, -2), BAD);
    }

    private static int tell(TurnDoor x, int what, int... pairs) {
        x.sheet(0, 2, pairs.length);
        for (int i = 0; i < pairs.length; i++) {
            x.item(0, 2, i, pairs[i]);
        }
        return x.times(0, 2, 0, pairs.length / 2, what);
    }

    private static void toldTimes() {
        check.says("of n (1 .. 8) of PEOPLE when each was THROUGH: MOTORS and DRAGS (all others as they are) by which it is just so");
        TurnDoor x = door("0sc;0hw");
        check.due("a child alone never is: by all 21 times 9", tell(x, 0, 0, 120), 189);
        check.due("the first motor", tell(x, 1, 0, 120), 0);
        check.due("its first drag", tell(x, 2, 0, 120), 1);
        check.due("at no tick", tell(x, 0, 0, 119), 0);
        check.says("NONE: there are none (1, 2)");
        check.due("no motor", tell(x, 1, 0, 119), NONE);
        check.due("no drag", tell(x, 2, 0, 119), NONE);
        check.says("MOTORS and DRAGS by which it is just so");
        // motor and push 2 together are below drag: 7 drags from 3 on by motor 0, 6 by motor 1, .. 1 by motor 6
        check.due("the walker is never through", tell(x, 0, 1, 120), 28);
        check.due("the first motor", tell(x, 1, 1, 120), 0);
        check.due("its first drag", tell(x, 2, 1, 120), 3);
        // opening 3, governor 3: speeds 1, 2 without push and 3 with push 4, or 3 from tick 2 on
        x = door("1sh", OPENING, 3, GOVERNOR, 3);
        int n = 0;
        int first = -1;
        for (int motor = 0; motor <= 20; motor++) {
            for (int drag = 1; drag <= 9; drag++) {
                boolean is = motor >= 2 * drag && motor + 4 >= 3 * drag;
                n += is ? 1 : 0;
                first = is && first < 0 ? 10 * motor + drag : first;
            }
        }
        check.due("at 3", tell(x, 0, 0, 3), n);
        check.due("the first motor", tell(x, 1, 0, 3), first / 10);
        check.due("its first drag", tell(x, 2, 0, 3), first % 10);
        check.due("at 2", tell(x, 0, 0, 2), 0);
        check.due("one pair eight times", tell(x, 0, 0, 3, 0, 3, 0, 3, 0, 3, 0, 3, 0, 3, 0, 3, 0, 3), n);
        check.due("the eighth differs", tell(x, 0, 0, 3, 0, 3, 0, 3, 0, 3, 0, 3, 0, 3, 0, 3, 0, 4), 0);
        check.due("the first differs", tell(x, 0, 0, 4, 0, 3, 0, 3, 0, 3, 0, 3, 0, 3, 0, 3, 0, 3), 0);
        check.due("the motor is as it was", x.set(MOTOR, 2), 2);
        check.due("drag is as it was", x.set(DRAG, 2), 2);
        x = door("0sw", FOLD, 0);
        check.due("through in the first tick", tell(x, 0, 0, 0), 189);
        x = door("119sw", FOLD, 119);
        check.due("through in the last tick", tell(x, 0, 0, 119), 189);
        check.due("not at 120", tell(x, 0, 0, 120), 0);
        x = door("0st;0sw;0sw;0sw;0sw;0sw;0sw;0sw;0sw;0sw;0sw;0sw");
        check.due("the twelfth, behind wheels", tell(x, 0, 11, 120), 189);
    }

    private static void toldTimesRefused() {
        check.says("times: NOT: one is not as told (nobody, TICK not 0 .. 120)");
        TurnDoor x = door("0sc;0sc");
        check.due("person -1", tell(x, 0, -1, 120), NOT);
        check.due("the last person", tell(x, 0, 1, 120), 189);
        check.due("one behind the last", tell(x, 0, 2, 120), NOT);
        check.due("person far below", tell(x, 0, FAR_DOWN, 120), NOT);
        check.due("person far above", tell(x, 0, FAR_UP, 120), NOT);
        check.due("tick -1", tell(x, 0, 0, -1), NOT);
        check.due("tick 0", tell(x, 0, 0, 0), 0);
        check.due("tick 121", tell(x, 0, 0, 121), NOT);
        check.due("tick far below", tell(x, 0, 0, FAR_DOWN), NOT);
        check.due("tick far above", tell(x, 0, 0, FAR_UP), NOT);
        check.due("the second pair's person", tell(x, 0, 0, 120, 2, 120), NOT);
        check.due("the second pair's tick", tell(x, 0, 0, 120, 1, 121), NOT);
        check.due("NOT ahead of NONE", tell(x, 1, 0, 119, 1, 121), NOT);
        check.due("nobody is there", tell(new TurnDoor(), 0, 0, 120), NOT);
        check.says("times: BAD; NULL; CAST; INDEX; NOT");
        x.drop(0);
        int[][] bad = {{-1, 0, 1, 0}, {4, 0, 1, 0}, {FAR_DOWN, 0, 1, 0}, {FAR_UP, 0, 1, 0}, {0, -1, 1, 0}, {0, 3, 1, 0},
            {0, FAR_DOWN, 1, 0}, {0, FAR_UP, 1, 0}, {0, 0, 0, 0}, {0, 0, -1, 0}, {0, 0, 9, 0}, {0, 0, FAR_DOWN, 0},
            {0, 0, FAR_UP, 0}, {0, 0, 1, -1}, {0, 0, 1, 3}, {0, 0, 1, FAR_DOWN}, {0, 0, 1, FAR_UP}};
        for (int[] b : bad) {
            check.due("BAD ahead of NULL", x.times(b[0], b[1], -1, b[2], b[3]), BAD);
        }
        check.due("NULL ahead of INDEX", x.times(0, 0, -1, 1, 0), TurnDoor.NULL);
        check.due("the last sheet", x.times(3, 2, 0, 8, 2), TurnDoor.NULL);
        x.sheet(0, 1, 16);
        x.item(0, 1, 0, 2);
        for (int[] b : bad) {
            check.due("BAD ahead of CAST", x.times(b[0], b[1], -1, b[2], b[3]), BAD);
        }
        check.due("CAST ahead of INDEX", x.times(0, 0, -1, 1, 0), TurnDoor.CAST);
        check.due("CAST", x.times(0, 2, 0, 1, 0), TurnDoor.CAST);
        check.due("CAST ahead of NOT", x.times(0, 2, 0, 1, 0), TurnDoor.CAST);
        check.due("INDEX below", x.times(0, 1, -1, 1, 0), TurnDoor.INDEX);
        check.due("INDEX far below", x.times(0, 1, FAR_DOWN, 8, 0), TurnDoor.INDEX);
        check.due("INDEX far above", x.times(0, 1, FAR_UP, 8, 0), TurnDoor.INDEX);
        check.due("the last pair", x.times(0, 1, 14, 1, 0), 0);
        check.due("half a pair", x.times(0, 1, 15, 1, 0), TurnDoor.INDEX);
        check.due("behind the end", x.times(0, 1, 16, 1, 0), TurnDoor.INDEX);
        check.due("all eight: NOT", x.times(0, 1, 0, 8, 0), NOT);
        check.due("INDEX ahead of NOT", x.times(0, 1, 1, 8, 0), TurnDoor.INDEX);
        x.sheet(0, 1, 1);
        check.due("a row of one", x.times(0, 1, 0, 1, 0), TurnDoor.INDEX);
        x.sheet(0, 1, 0);
        check.due("a row of none", x.times(0, 1, 0, 1, 0), TurnDoor.INDEX);
    }

    private static void without() {
        check.says("How much WARMTH less is lost, if one of PEOPLE did not come. BAD less 100000 (-100001).");
        TurnDoor x = door("0sw", GOVERNOR, 1);
        check.due("one who kept warmth in", x.without(0), -1);
        x.set(COLD, 9);
        check.due("nine times as much", x.without(0), -9);
        x.set(COLD, 0);
        check.due("no warmth at all", x.without(0), 0);
        // five steps: its own part closes at turn 2, an empty one at turn 5
        check.due("one who turned the door", door("0sw", MOTOR, 0, GOVERNOR, 1).without(0), 1 + 2);
        check.due("one who only waits", door("0sc").without(0), 0);
        // wheels stop the walker: without them it goes, and its part holds one when it closes
        check.due("one who stopped another", door("0st;0sw", GOVERNOR, 1).without(0), 1);
        check.due("all are there yet", x.count(0), 1);
        x = door(TWELVE);
        x.delay(11, 119);
        check.due("the twelfth, a child that waits", x.without(11), 0);
        int[] bad = {-1, 12, FAR_DOWN, FAR_UP};
        for (int person : bad) {
            check.due("without(" + person + ")", x.without(person), -100001);
        }
        check.due("nobody is there", new TurnDoor().without(0), -100001);
    }

    private static void images() {
        check.says("All is as it was then: 1. NONE: there is none.");
        TurnDoor x = new TurnDoor();
        check.due("none", x.restore(), NONE);
        check.due("of a new door", x.image(), 1);
        Check.come(x, TWELVE);
        for (int what = 0; what < 9; what++) {
            x.set(what, 3);
        }
        check.due("restore()", x.restore(), 1);
        check.due("nobody", x.count(0), 0);
        int[] first = {4, 2, 2, 2, 2, 2, 1, 3, 120};
        for (int what = 0; what < 9; what++) {
            check.due("setting " + what, x.set(what, first[what]), first[what]);
        }
        check.due("once more", x.restore(), 1);
        Check.come(x, TWELVE);
        check.due("of twelve", x.image(), 1);
        x.clear();
        check.due("restore()", x.restore(), 1);
        check.due("twelve", x.count(0), 12);
        check.due("the twelfth", x.told(11, 2), 3);
        check.due("no room for another", x.person(0, 0, 0), TurnDoor.FULL);
        x.delay(11, 50);
        check.due("the image is not changed by that", x.restore(), 1);
        check.due("the twelfth", x.told(11, 0), 9);
        check.says("All but SHEETS, THE TAPE is kept as an IMAGE: 1.");
        x = door("5hw");
        x.sheet(1, 2, 4);
        Check.typed(x, "7s");
        x.image();
        x.drop(1);
        x.sheet(2, 0, 3);
        Check.typed(x, "b");
        x.clear();
        check.due("restore()", x.restore(), 1);
        check.due("a sheet dropped since is nothing", x.drop(1), TurnDoor.NULL);
        check.due("a sheet made since is there", x.drop(2), 3);
        check.due("the tape is as it is", x.people(), 1);
        check.due("behind the one that came back", x.told(1, 0), 7);
        for (int sheet = 0; sheet < 4; sheet++) {
            x.sheet(sheet, sheet % 3, 4 + sheet);
        }
        check.due("image()", x.image(), 1);
        for (int sheet = 0; sheet < 4; sheet++) {
            x.item(sheet, sheet % 3, 1, 121);
        }
        check.due("restore()", x.restore(), 1);
        for (int sheet = 0; sheet < 4; sheet++) {
            check.due("an item is as it was put since", x.times(sheet, sheet % 3, 0, 1, 0), NOT);
            check.due("all sheets are there", x.drop(sheet), 4 + sheet);
        }
        check.due("two", x.clear(), 2);
        check.due("restore()", x.restore(), 1);
        check.due("an empty tape stays empty", x.people(), -20);
        check.due("two", x.count(0), 2);
    }

    public static void main(String[] args) {
        leastMotor();
        warmestDoors();
        orders();
        toldTimes();
        toldTimesRefused();
        without();
        images();
        check.end("WouldBeEdgesTest");
    }
}
