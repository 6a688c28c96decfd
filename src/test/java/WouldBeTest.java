import java.util.ArrayList;
import java.util.List;
import java.util.function.Supplier;

/** Promises 17 to 23: what would be, compared with what is, once it has been set so by calls. */
public final class WouldBeTest {
    private static final Check check = new Check();
    private static final String[] CROWDS = {"0sw", "0sw;0hw;3sb;9hh", "0sd;2hc;2hw;4hb", "1sb;1hb;2st;3sh;3sc;8hd",
        "5sh;0sb;0hw;7hc;2sd;2sw", "30sw;30sc;31hb;90ht", "0sc", "0sw;0sw;0sw;0sw;0sw;0sw;0sw;0sh"};
    private static final int[][] SETTINGS = {{}, {2, 4}, {0, 3, 1, 1}, {3, 0, 2, 3}, {4, 3, 7, 1, 6, 5}, {8, 25, 2, 3, 3, 1},
        {5, 3, 4, 1, 2, 6}};

    private static TurnDoor door(String people, int[] settings) {
        TurnDoor x = Check.withPeople(people);
        for (int i = 0; i + 1 < settings.length; i += 2) {
            x.set(settings[i], settings[i + 1]);
        }
        return x;
    }

    private static void leastMotor(String people, int[] settings) {
        TurnDoor x = door(people, settings);
        TurnDoor y = door(people, settings);
        int[] lasts = new int[21];
        for (int m = 0; m <= 20; m++) {
            y.set(3, m);
            lasts[m] = y.all(1);
        }
        for (int t = 0; t < 120; t += t < 20 ? 1 : 9) {
            int want = TurnDoor.NONE;
            for (int m = 20; m >= 0; m--) {
                want = lasts[m] <= t ? m : want;
            }
            check.due("17 " + people + " motor(" + t + ")", x.motor(t), want);
        }
        check.due("17 the motor stays", x.set(3, 2), door(people, settings).set(3, 2));
    }

    private static void leastMotorByHand() {
        TurnDoor x = Check.withPeople("0sw");
        // without a motor it pushes alone and is through at 5; with 2 at 2; nothing is quicker
        check.due("17 motor(119)", x.motor(119), 0);
        check.due("17 motor(5)", x.motor(5), 0);
        check.due("17 motor(4)", x.motor(4), 2);
        check.due("17 motor(2)", x.motor(2), 2);
        check.due("17 motor(1)", x.motor(1), TurnDoor.NONE);
        check.due("17 motor(0)", x.motor(0), TurnDoor.NONE);
        check.due("17 motor(-1)", x.motor(-1), TurnDoor.BAD);
        check.due("17 motor(120)", x.motor(120), TurnDoor.BAD);
        check.due("17 motor(least)", x.motor(Integer.MIN_VALUE), TurnDoor.BAD);
        check.due("17 motor(most)", x.motor(Integer.MAX_VALUE), TurnDoor.BAD);
        x.delay(0, 1);
        // one tick later part 0 has gone by; part 3 is open at tick 1
        check.due("17 motor(5) behind a delay", x.motor(5), 2);
        x.clear();
        check.due("17 nobody", x.motor(0), 0);
    }

    private static void warmestOf(String people, int[] settings) {
        TurnDoor x = door(people, settings);
        TurnDoor y = door(people, settings);
        int[][] found = new int[18][];
        int n = 0;
        for (int leaves = 3; leaves <= 4; leaves++) {
            for (int opening = 1; opening <= 3; opening++) {
                for (int governor = 1; governor <= 3; governor++) {
                    y.set(0, leaves);
                    y.set(1, opening);
                    y.set(5, governor);
                    found[n++] = new int[] {leaves, opening, governor, y.all(3), y.all(1)};
                }
            }
        }
        int[] ticks = {0, 2, 5, 8, 12, 16, 20, 25, 30, 40, 60, 95, 119};
        for (int t : ticks) {
            int[] best = null;
            for (int[] f : found) {
                best = f[4] <= t && (best == null || f[3] < best[3]) ? f : best;
            }
            for (int what = 0; what < 4; what++) {
                check.due("18 " + people + " warmest(" + t + ", " + what + ")", x.warmest(t, what),
                    best == null ? TurnDoor.NONE : best[what]);
            }
        }
        check.due("18 the leaves stay", x.set(0, 4), door(people, settings).set(0, 4));
        check.due("18 the opening stays", x.set(1, 2), door(people, settings).set(1, 2));
        check.due("18 the governor stays", x.set(5, 2), door(people, settings).set(5, 2));
    }

    private static void warmestByHand() {
        TurnDoor x = new TurnDoor();
        int[] want = {3, 1, 1, 60};
        for (int what = 0; what < 4; what++) {
            check.due("18 nobody", x.warmest(0, what), want[what]);
        }
        x.set(6, 0);
        check.due("18 without cold the first", x.warmest(119, 0), 3);
        check.due("18 without cold", x.warmest(119, 3), 0);
        int[] far = {-1, Integer.MIN_VALUE, Integer.MAX_VALUE};
        for (int w : far) {
            check.due("18 tick", x.warmest(w, 0), TurnDoor.BAD);
            check.due("18 what", x.warmest(0, w), TurnDoor.BAD);
        }
        check.due("18 tick", x.warmest(120, 0), TurnDoor.BAD);
        check.due("18 what", x.warmest(0, 4), TurnDoor.BAD);
        x.person(0, 0, 3);
        check.due("18 by none", x.warmest(119, 0), TurnDoor.NONE);
        check.due("18 by none", x.warmest(119, 3), TurnDoor.NONE);
        check.due("18 bad ahead of none", x.warmest(119, 4), TurnDoor.BAD);
    }

    /** Deals by calls of delay, all rows in rising order, each on a door of its own: one is promised 512 calls. */
    private static int[] bestOrder(Supplier<TurnDoor> doors, List<Integer> who, List<Integer> ticks, List<Integer> row, int[] best) {
        int[] found = best;
        if (row.size() == who.size()) {
            TurnDoor y = doors.get();
            for (int i = 0; i < row.size(); i++) {
                y.delay(row.get(i), ticks.get(i));
            }
            int last = y.all(1);
            int waits = y.all(2);
            if (found == null || last < found[0] || last == found[0] && waits < found[1]) {
                found = new int[2 + row.size()];
                found[0] = last;
                found[1] = waits;
                for (int i = 0; i < row.size(); i++) {
                    found[2 + i] = row.get(i);
                }
            }
            return found;
        }
        for (int p : who) {
            if (!row.contains(p)) {
                row.add(p);
                found = bestOrder(doors, who, ticks, row, found);
                row.remove(row.size() - 1);
            }
        }
        return found;
    }

    private static void orders(String people, int[] settings, int some) {
        TurnDoor x = door(people, settings);
        List<Integer> who = new ArrayList<>();
        List<Integer> ticks = new ArrayList<>();
        for (int p = 0; p < x.count(0); p++) {
            if ((some >> p & 1) != 0) {
                who.add(p);
                ticks.add(x.told(p, 0));
            }
        }
        if (who.isEmpty() || who.size() > 6 || some >> x.count(0) != 0) {
            check.due("19 " + people + " orders(" + some + ", 0)", x.orders(some, 0), TurnDoor.BAD);
            return;
        }
        ticks.sort(null);
        int[] best = bestOrder(() -> door(people, settings), who, ticks, new ArrayList<>(), null);
        check.due("19 " + people + " orders(" + some + ", -1)", x.orders(some, -1), best[0]);
        check.due("19 " + people + " orders(" + some + ", -2)", x.orders(some, -2), best[1]);
        for (int i = 0; i < who.size(); i++) {
            check.due("19 " + people + " orders(" + some + ", " + i + ")", x.orders(some, i), best[2 + i]);
        }
        check.due("19 behind the last", x.orders(some, who.size()), TurnDoor.BAD);
        check.due("19 -3", x.orders(some, -3), TurnDoor.BAD);
        for (int p = 0; p < x.count(0); p++) {
            check.due("19 nobody is delayed", x.told(p, 0), door(people, settings).told(p, 0));
        }
    }

    private static void ordersByHand() {
        // the child must come behind the one who walks
        TurnDoor x = new TurnDoor();
        check.due("19 nobody came", x.orders(0, -1), TurnDoor.BAD);
        check.due("19 nobody came", x.orders(1, -1), TurnDoor.BAD);
        x = Check.withPeople("0sc;9sw");
        check.due("19 none", x.orders(0, -1), TurnDoor.BAD);
        check.due("19 the walker first", x.orders(3, 0), 1);
        check.due("19 then the child, who waits for one to go with for ever", x.orders(3, 1), 0);
        check.due("19 never all", x.orders(3, -1), 120);
        check.due("19 waits", x.orders(3, -2), 111);
        x = Check.withPeople("4sw;4sw;4sw");
        for (int i = 0; i < 3; i++) {
            check.due("19 of like ones the first row", x.orders(7, i), i);
        }
        check.due("19 one alone", x.orders(4, 0), 2);
        check.due("19 none", x.orders(0, 0), TurnDoor.BAD);
        check.due("19 nobody", x.orders(8, 0), TurnDoor.BAD);
        check.due("19 nobody, too", x.orders(9, 0), TurnDoor.BAD);
        check.due("19 a set of all bits", x.orders(-1, 0), TurnDoor.BAD);
        check.due("19 the highest bit", x.orders(Integer.MIN_VALUE, 0), TurnDoor.BAD);
        check.due("19 the highest bit, too", x.orders(Integer.MIN_VALUE | 1, 0), TurnDoor.BAD);
        check.due("19 i", x.orders(1, Integer.MIN_VALUE), TurnDoor.BAD);
        check.due("19 i", x.orders(1, Integer.MAX_VALUE), TurnDoor.BAD);
        x = Check.withPeople("4sw;4sw;4sw;4sw;4sw;4sw;4sw;4sw");
        check.due("19 seven", x.orders(127, 0), TurnDoor.BAD);
        check.due("19 six", x.orders(126, 5), 6);
        int before = x.orders(126, -2);
        x.set(2, 6);
        check.due("19 another room, other waits", x.orders(126, -2) < before ? 1 : 0, 1);
    }

    private static void toldTimes(String people, int[] settings, int motor, int drag) {
        TurnDoor x = door(people, settings);
        TurnDoor y = door(people, settings);
        int n = Math.min(8, x.count(0));
        y.set(3, motor);
        y.set(4, drag);
        x.sheet(1, 1, 16);
        int[] ends = new int[n];
        for (int p = 0; p < n; p++) {
            ends[p] = y.fate(p, 1) == TurnDoor.NONE ? 120 : y.fate(p, 1);
            x.item(1, 1, 2 * p, p);
            x.item(1, 1, 2 * p + 1, ends[p]);
        }
        int[] found = new int[n];
        int[] firsts = new int[n];
        for (int m = 0; m <= 20; m++) {
            y = door(people, settings);
            y.set(3, m);
            for (int d = 1; d <= 9; d++) {
                y.set(4, d);
                for (int p = 0; p < n; p++) {
                    if ((y.fate(p, 1) == TurnDoor.NONE ? 120 : y.fate(p, 1)) != ends[p]) {
                        break;
                    }
                    firsts[p] = found[p] == 0 ? 100 * m + d : firsts[p];
                    found[p]++;
                }
            }
        }
        for (int p = 0; p < n; p++) {
            check.due("20 " + people + " how many", x.times(1, 1, 0, p + 1, 0), found[p]);
            check.due("20 " + people + " motor", x.times(1, 1, 0, p + 1, 1), firsts[p] / 100);
            check.due("20 " + people + " drag", x.times(1, 1, 0, p + 1, 2), firsts[p] % 100);
        }
    }

    private static void toldTimesRefused() {
        TurnDoor x = Check.withPeople("0sw;0hw");
        check.due("20 bad sheet ahead of null", x.times(-1, 0, 0, 1, 0), TurnDoor.BAD);
        check.due("20 null", x.times(0, 0, 0, 1, 0), TurnDoor.NULL);
        check.due("20 null ahead of index", x.times(0, 0, -1, 1, 0), TurnDoor.NULL);
        x.sheet(0, 0, 4);
        int[][] bad = {{4, 0, 1, 0}, {0, -1, 1, 0}, {0, 3, 1, 0}, {0, 0, 0, 0}, {0, 0, 9, 0}, {0, 0, -1, 0}, {0, 0, 1, -1},
            {0, 0, 1, 3}, {0, 0, Integer.MAX_VALUE, 0}, {0, 0, Integer.MIN_VALUE, 0}};
        for (int[] b : bad) {
            check.due("20 bad", x.times(b[0], b[1], 0, b[2], b[3]), TurnDoor.BAD);
            check.due("20 bad ahead of all", x.times(b[0], b[1], -7, b[2], b[3]), TurnDoor.BAD);
        }
        check.due("20 cast", x.times(0, 1, 0, 1, 0), TurnDoor.CAST);
        check.due("20 cast ahead of index", x.times(0, 1, -1, 1, 0), TurnDoor.CAST);
        check.due("20 index", x.times(0, 0, -1, 1, 0), TurnDoor.INDEX);
        check.due("20 index", x.times(0, 0, 3, 1, 0), TurnDoor.INDEX);
        check.due("20 index", x.times(0, 0, 0, 3, 0), TurnDoor.INDEX);
        check.due("20 index", x.times(0, 0, Integer.MAX_VALUE, 8, 0), TurnDoor.INDEX);
        check.due("20 index", x.times(0, 0, Integer.MIN_VALUE, 8, 0), TurnDoor.INDEX);
        x.item(0, 0, 0, 2);
        check.due("20 index ahead of nobody", x.times(0, 0, 0, 3, 0), TurnDoor.INDEX);
        check.due("20 nobody", x.times(0, 0, 0, 1, 0), TurnDoor.NOT);
        check.due("20 nobody", x.times(0, 0, 0, 2, 1), TurnDoor.NOT);
        x.item(0, 0, 0, -1);
        check.due("20 nobody", x.times(0, 0, 0, 1, 2), TurnDoor.NOT);
        x.item(0, 0, 0, 1);
        x.item(0, 0, 1, 121);
        check.due("20 tick 121", x.times(0, 0, 0, 1, 0), TurnDoor.NOT);
        x.item(0, 0, 1, -1);
        check.due("20 tick -1", x.times(0, 0, 0, 1, 0), TurnDoor.NOT);
        x.item(0, 0, 1, 0);
        check.due("20 none through at once", x.times(0, 0, 0, 1, 0), 0);
        check.due("20 none", x.times(0, 0, 0, 1, 1), TurnDoor.NONE);
        check.due("20 none", x.times(0, 0, 0, 1, 2), TurnDoor.NONE);
        x.item(0, 0, 1, 2);
        x.item(0, 0, 2, 1);
        x.item(0, 0, 3, 3);
        check.due("20 one told two times", x.times(0, 0, 0, 2, 0), 0);
        check.due("20 the motor stays", x.set(3, 2), 2);
        check.due("20 drag stays", x.set(4, 2), 2);
    }

    private static void lossWithout(String people, int[] settings) {
        TurnDoor x = door(people, settings);
        for (int gone = 0; gone < x.count(0); gone++) {
            TurnDoor y = door("", settings);
            for (int p = 0; p < x.count(0); p++) {
                if (p != gone) {
                    y.person(x.told(p, 0), x.told(p, 1), x.told(p, 2));
                }
            }
            check.due("21 " + people + " without(" + gone + ")", x.without(gone), x.all(3) - y.all(3));
        }
        check.due("21 all are there", x.count(0), door(people, settings).count(0));
    }

    private static void lossWithoutRefused() {
        TurnDoor x = new TurnDoor();
        check.due("21 nobody", x.without(0), -100001);
        x.person(0, 0, 0);
        // of 41 parts one goes round with one inside: 81; without it 40 empty ones: 80
        check.due("21 one who takes warmth with it", x.without(0), 1);
        check.due("21 nobody", x.without(1), -100001);
        check.due("21 nobody", x.without(-1), -100001);
        check.due("21 nobody", x.without(Integer.MIN_VALUE), -100001);
        check.due("21 nobody", x.without(Integer.MAX_VALUE), -100001);
        x.set(5, 1);
        check.due("21 one who keeps it", x.without(0), -1);
    }

    private static void images() {
        TurnDoor x = new TurnDoor();
        check.due("23 none", x.restore(), TurnDoor.NONE);
        for (int i = 0; i < 9; i++) {
            x.set(i, new int[] {3, 1, 5, 7, 3, 3, 4, 2, 60}[i]);
        }
        x.person(3, 1, 5);
        x.person(4, 0, 1);
        x.sheet(0, 0, 5);
        Check.typed(x, "7h");
        int lost = x.all(3);
        check.due("22 image()", x.image(), 1);
        for (int i = 0; i < 9; i++) {
            x.set(i, new int[] {4, 2, 2, 2, 2, 2, 1, 3, 120}[i]);
        }
        x.delay(0, 9);
        x.person(8, 0, 0);
        x.drop(0);
        x.sheet(1, 2, 7);
        Check.typed(x, "w");
        check.holds("23 other warmth", x.all(3) != lost);
        check.due("23 restore()", x.restore(), 1);
        check.due("23 people", x.count(0), 2);
        check.due("23 tick", x.told(0, 0), 3);
        check.due("23 side", x.told(0, 1), 1);
        check.due("23 kind", x.told(1, 2), 1);
        check.due("23 lost", x.all(3), lost);
        for (int i = 0; i < 9; i++) {
            int was = new int[] {3, 1, 5, 7, 3, 3, 4, 2, 60}[i];
            check.due("23 setting " + i, x.set(i, was), was);
        }
        check.due("23 sheets stay as they are", x.drop(0), TurnDoor.NULL);
        check.due("23 sheets stay as they are", x.drop(1), 7);
        check.due("23 the tape stays as it is", x.people(), 1);
        check.due("23 behind it", x.count(0), 3);
        check.due("23 restore() once more", x.restore(), 1);
        check.due("23 people once more", x.count(0), 2);
        x.clear();
        check.due("22 another image", x.image(), 1);
        x.person(0, 0, 0);
        check.due("23 restore()", x.restore(), 1);
        check.due("23 nobody", x.count(0), 0);
    }

    public static void main(String[] args) {
        leastMotorByHand();
        warmestByHand();
        ordersByHand();
        toldTimesRefused();
        lossWithoutRefused();
        images();
        for (int c = 0; c < CROWDS.length; c++) {
            for (int s = 0; s < SETTINGS.length; s++) {
                leastMotor(CROWDS[c], SETTINGS[s]);
                warmestOf(CROWDS[c], SETTINGS[s]);
                lossWithout(CROWDS[c], SETTINGS[s]);
                orders(CROWDS[c], SETTINGS[s], 15);
                orders(CROWDS[c], SETTINGS[s], 63);
                toldTimes(CROWDS[c], SETTINGS[s], (7 * s + 3 * c) % 21, 1 + (5 * c + s) % 9);
            }
        }
        check.end("WouldBeTest");
    }
}
