import java.util.ArrayList;
import java.util.Arrays;
import java.util.List;

/**
 * "What is refused changes nothing, but as told": behind each refusal all that later calls show is as it is on a door
 * that never had that call. What asks alone changes nothing, either.
 */
public final class RefusedTest {
    private static final Check check = new Check();
    private static final int ANY = 1000000, BAD = TurnDoor.BAD, NOT = TurnDoor.NOT, FULL = TurnDoor.FULL, NONE = TurnDoor.NONE;
    private static final int NULL = TurnDoor.NULL, CAST = TurnDoor.CAST, INDEX = TurnDoor.INDEX, SIZE = TurnDoor.SIZE;
    private static final int FAR_DOWN = Integer.MIN_VALUE, FAR_UP = Integer.MAX_VALUE;
    private static final int NEW = Shown.NEW, CROWDED = Shown.CROWDED, TYPED = Shown.TYPED;

    private interface Call {
        int on(TurnDoor x);
    }

    private record Refusal(String name, int want, Call call) {
    }

    private static void compare(int state, boolean warmed, int aspect, int[] want, Refusal r) {
        TurnDoor x = Shown.build(state);
        if (warmed) {
            Shown.warm(x);
        }
        String where = "state " + state + (warmed ? ", asked before, " : ", ") + r.name;
        int answer = r.call.on(x);
        if (r.want == ANY) {
            check.holds(where + " is no refusal", answer >= 0);
        } else {
            check.due(where, answer, r.want);
        }
        int[] got = Shown.by(x, aspect);
        check.holds(where + ": later calls (" + aspect + ") show " + Arrays.toString(got) + ", due is " + Arrays.toString(want),
            Arrays.equals(got, want));
    }

    private static void add(List<Refusal> to, String name, int want, Call call) {
        to.add(new Refusal(name, want, call));
    }

    /** Refused on any door. */
    private static List<Refusal> always() {
        List<Refusal> all = new ArrayList<>();
        int[][] sets = {{-1, 2}, {9, 2}, {0, 2}, {0, 5}, {1, 0}, {1, 4}, {2, 0}, {2, 7}, {3, -1}, {3, 21}, {4, 0}, {4, 10}, {5, 0}, {5, 4},
            {6, -1}, {6, 10}, {7, 0}, {7, 10}, {8, -1}, {8, 121}, {FAR_DOWN, 3}, {0, FAR_UP}};
        for (int[] s : sets) {
            add(all, "set(" + s[0] + ", " + s[1] + ")", BAD, x -> x.set(s[0], s[1]));
        }
        int[][] persons = {{-1, 0, 0}, {120, 0, 0}, {0, -1, 0}, {0, 2, 0}, {0, 0, -1}, {0, 0, 6}};
        for (int[] p : persons) {
            add(all, "person(" + p[0] + ", " + p[1] + ", " + p[2] + ")", BAD, x -> x.person(p[0], p[1], p[2]));
        }
        int[][] delays = {{-1, 5}, {12, 5}, {0, -1}, {0, 120}, {FAR_UP, 0}};
        for (int[] d : delays) {
            add(all, "delay(" + d[0] + ", " + d[1] + ")", BAD, x -> x.delay(d[0], d[1]));
        }
        add(all, "type(.., 0)", BAD, x -> x.type('s', 0));
        add(all, "type(.., 9)", BAD, x -> x.type(0x7373737373737373L, 9));
        add(all, "type of 31", BAD, x -> x.type('s' << 8 | 31, 2));
        add(all, "type of 127", BAD, x -> x.type(127 << 8 | 's', 2));
        add(all, "sheet(4, 0, 5)", BAD, x -> x.sheet(4, 0, 5));
        add(all, "sheet(0, 3, 5)", BAD, x -> x.sheet(0, 3, 5));
        add(all, "sheet(0, 2, 17)", BAD, x -> x.sheet(0, 2, 17));
        add(all, "sheet(-1, 0, -1)", BAD, x -> x.sheet(-1, 0, -1));
        add(all, "sheet(0, 2, -1)", SIZE, x -> x.sheet(0, 2, -1));
        add(all, "sheet(3, 1, least)", SIZE, x -> x.sheet(3, 1, FAR_DOWN));
        add(all, "drop(-1)", BAD, x -> x.drop(-1));
        add(all, "drop(4)", BAD, x -> x.drop(4));
        add(all, "drop(3)", NULL, x -> x.drop(3));
        add(all, "item(4, 0, 0, 7)", BAD, x -> x.item(4, 0, 0, 7));
        add(all, "item(0, 3, 0, 7)", BAD, x -> x.item(0, 3, 0, 7));
        add(all, "item(3, 0, 0, 7)", NULL, x -> x.item(3, 0, 0, 7));
        add(all, "film(4, 0, 0)", BAD, x -> x.film(4, 0, 0));
        add(all, "film(0, -1, 0)", BAD, x -> x.film(0, -1, 0));
        add(all, "film(3, 0, 0)", NULL, x -> x.film(3, 0, 0));
        askedBadly(all);
        return all;
    }

    private static void askedBadly(List<Refusal> all) {
        add(all, "share(4, 0, 0)", BAD, x -> x.share(4, 0, 0));
        add(all, "open(0, 12)", BAD, x -> x.open(0, 12));
        add(all, "told(12, 0)", BAD, x -> x.told(12, 0));
        add(all, "told(0, 5)", BAD, x -> x.told(0, 5));
        add(all, "fate(12, 0)", BAD, x -> x.fate(12, 0));
        add(all, "fate(0, 4)", BAD, x -> x.fate(0, 4));
        add(all, "at(120, 0)", BAD, x -> x.at(120, 0));
        add(all, "at(0, 5)", BAD, x -> x.at(0, 5));
        add(all, "within(0, 4)", BAD, x -> x.within(0, 4));
        add(all, "all(7)", BAD, x -> x.all(7));
        add(all, "count(2)", BAD, x -> x.count(2));
        add(all, "shared(0, 0)", BAD, x -> x.shared(0, 0));
        add(all, "motor(120)", BAD, x -> x.motor(120));
        add(all, "warmest(120, 0)", BAD, x -> x.warmest(120, 0));
        add(all, "warmest(0, 4)", BAD, x -> x.warmest(0, 4));
        add(all, "orders(0, 0)", BAD, x -> x.orders(0, 0));
        add(all, "orders(127, 0)", BAD, x -> x.orders(127, 0));
        add(all, "orders(4096, 0)", BAD, x -> x.orders(4096, 0));
        add(all, "orders(3, 2)", BAD, x -> x.orders(3, 2));
        add(all, "orders(3, -3)", BAD, x -> x.orders(3, -3));
        add(all, "times(0, 0, 0, 9, 0)", BAD, x -> x.times(0, 0, 0, 9, 0));
        add(all, "times(3, 0, 0, 1, 0)", NULL, x -> x.times(3, 0, 0, 1, 0));
        add(all, "without(12)", -100001, x -> x.without(12));
    }

    /** Refused on this door. */
    private static List<Refusal> here(int state) {
        List<Refusal> all = new ArrayList<>();
        if (state != CROWDED) {
            add(all, "restore()", NONE, x -> x.restore());
        } else {
            add(all, "person(0, 0, 0)", FULL, x -> x.person(0, 0, 0));
            add(all, "share(3, 0, 0)", BAD, x -> x.share(3, 0, 0));
            add(all, "within(0, 3)", BAD, x -> x.within(0, 3));
        }
        if (state == TYPED) {
            add(all, "type(.., 1)", FULL, x -> x.type('s', 1));
            add(all, "type(.., 8)", FULL, x -> x.type(0x7373737373737373L, 8));
            add(all, "delay(8, 5)", BAD, x -> x.delay(8, 5));
            add(all, "orders(511, 0)", BAD, x -> x.orders(511, 0));
        }
        if (state == NEW) {
            add(all, "drop(0)", NULL, x -> x.drop(0));
            add(all, "delay(0, 5)", BAD, x -> x.delay(0, 5));
            return all;
        }
        add(all, "motor(0)", NONE, x -> x.motor(0));
        add(all, "warmest(0, 0)", NONE, x -> x.warmest(0, 0));
        add(all, "item(0, 1, 0, 7)", CAST, x -> x.item(0, 1, 0, 7));
        add(all, "item(0, 0, 16, 7)", INDEX, x -> x.item(0, 0, 16, 7));
        add(all, "item(0, 0, -1, 7)", INDEX, x -> x.item(0, 0, -1, 7));
        add(all, "item(1, 1, 3, 7)", INDEX, x -> x.item(1, 1, 3, 7));
        add(all, "item(2, 2, 0, 7)", INDEX, x -> x.item(2, 2, 0, 7));
        add(all, "film(0, 2, 0)", CAST, x -> x.film(0, 2, 0));
        add(all, "film(0, 0, 9)", INDEX, x -> x.film(0, 0, 9));
        add(all, "film(0, 0, -1)", INDEX, x -> x.film(0, 0, -1));
        add(all, "film(1, 1, 0)", INDEX, x -> x.film(1, 1, 0));
        add(all, "film(2, 2, 0)", INDEX, x -> x.film(2, 2, 0));
        add(all, "times(0, 1, 0, 1, 0)", CAST, x -> x.times(0, 1, 0, 1, 0));
        add(all, "times(0, 0, 1, 8, 0)", INDEX, x -> x.times(0, 0, 1, 8, 0));
        add(all, "times(0, 0, 15, 1, 0)", INDEX, x -> x.times(0, 0, 15, 1, 0));
        add(all, "times(1, 1, 1, 1, 1)", NOT, x -> x.times(1, 1, 1, 1, 1));
        return all;
    }

    /** What asks alone; an image of what is there is no change to anything else, either. */
    private static List<Refusal> asking() {
        List<Refusal> all = new ArrayList<>();
        add(all, "share", ANY, x -> x.share(1, 1, 5));
        add(all, "open", ANY, x -> x.open(1, 5));
        add(all, "told", ANY, x -> x.told(7, 4));
        add(all, "fate", ANY, x -> x.fate(0, 2));
        add(all, "at", ANY, x -> x.at(119, 3));
        add(all, "within", ANY, x -> x.within(5, 2));
        add(all, "all", ANY, x -> x.all(6));
        add(all, "count", ANY, x -> x.count(1));
        add(all, "shared", ANY, x -> x.shared(0, 7));
        add(all, "orders of six", ANY, x -> x.orders(63 << 2, 5));
        add(all, "orders of two", ANY, x -> x.orders(3, -2));
        add(all, "times", ANY, x -> x.times(0, 0, 0, 1, 0));
        add(all, "without", ANY, x -> x.without(3) + 1000);
        add(all, "motor", ANY, x -> x.motor(118) + 1000);
        add(all, "warmest", ANY, x -> x.warmest(118, 3) + 1000);
        return all;
    }

    private static void unread(int state, int want) {
        for (int aspect = 0; aspect < Shown.ASPECTS; aspect++) {
            TurnDoor x = Shown.build(state);
            check.due("state " + state + ", people()", x.people(), want);
            if (aspect == Shown.TAPE) {
                check.due("THE TAPE, which is empty then", x.type(' ', 1), 1);
            } else {
                check.holds("state " + state + ": none comes (" + aspect + ")",
                    Arrays.equals(Shown.by(x, aspect), Shown.by(Shown.build(state), aspect)));
            }
        }
    }

    public static void main(String[] args) {
        for (int state = 0; state < Shown.STATES; state++) {
            List<Refusal> calls = new ArrayList<>(always());
            calls.addAll(here(state));
            if (state != NEW) {
                calls.addAll(asking());
            }
            for (int aspect = 0; aspect < Shown.ASPECTS; aspect++) {
                int[] want = Shown.by(Shown.build(state), aspect);
                for (Refusal r : calls) {
                    compare(state, false, aspect, want, r);
                    compare(state, true, aspect, want, r);
                }
            }
        }
        unread(NEW, -20);
        unread(CROWDED, -25);
        unread(TYPED, FULL);
        check.end("RefusedTest");
    }
}
