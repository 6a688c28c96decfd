/** Promises 11 to 16: what goes on. The numbers are worked out by hand from the document's ticks. */
public final class GoingOnTest {
    private static final Check check = new Check();
    private static String name = "";

    private static TurnDoor door(String called, String people, int... settings) {
        name = called;
        TurnDoor x = Check.withPeople(people);
        for (int i = 0; i + 1 < settings.length; i += 2) {
            x.set(settings[i], settings[i + 1]);
        }
        return x;
    }

    private static void fate(TurnDoor x, int person, int in, int through, int wait, int caught) {
        check.due(name + ": 11 fate(" + person + ", 0)", x.fate(person, 0), in);
        check.due(name + ": 11 fate(" + person + ", 1)", x.fate(person, 1), through);
        check.due(name + ": 11 fate(" + person + ", 2)", x.fate(person, 2), wait);
        check.due(name + ": 11 fate(" + person + ", 3)", x.fate(person, 3), caught);
    }

    private static void at(TurnDoor x, int tick, int... want) {
        for (int what = 0; what < want.length; what++) {
            check.due(name + ": 12 at(" + tick + ", " + what + ")", x.at(tick, what), want[what]);
        }
    }

    private static void within(TurnDoor x, int tick, int... want) {
        for (int part = 0; part < want.length; part++) {
            check.due(name + ": 13 within(" + tick + ", " + part + ")", x.within(tick, part), want[part]);
        }
    }

    private static void all(TurnDoor x, int... want) {
        for (int what = 0; what < want.length; what++) {
            check.due(name + ": 14 all(" + what + ")", x.all(what), want[what]);
        }
    }

    private static void oneWalks() {
        // its push makes speed 2 at tick 1; behind it speed is 1 again, 3 ticks of 2 steps in all
        TurnDoor x = door("one walks", "0sw");
        fate(x, 0, 0, 2, 0, 0);
        at(x, 0, 1, 1, 1, 0, 0);
        at(x, 1, 3, 2, 1, 0, 0);
        at(x, 2, 5, 2, 0, 0, 0);
        at(x, 3, 6, 1, 0, 0, 0);
        at(x, 119, (6 + 116) % 12, 1, 0, 0, 0);
        within(x, 0, 1, 0, 0, 0);
        within(x, 1, 1, 0, 0, 0);
        within(x, 2, 0, 0, 0, 0);
        // 122 steps: parts close to the street at turns 2, 5, 8, 11: 41 times, the first with room for one
        all(x, 1, 2, 0, 81, 122, 0, 0);
    }

    private static void oneComesFromTheHall() {
        TurnDoor x = door("one from the hall", "0hw");
        fate(x, 0, 0, 2, 0, 0);
        within(x, 0, 0, 0, 1, 0);
        all(x, 1, 2, 0, 82, 122, 0, 0);
        check.due("15 to the hall", x.count(1), 0);
    }

    private static void oneWithABag() {
        TurnDoor x = door("a bag is caught", "0sb");
        fate(x, 0, 0, 7, 0, 1);
        at(x, 0, 1, 1, 1, 0, 3);
        at(x, 1, 1, 0, 1, 0, 2);
        at(x, 2, 1, 0, 1, 0, 1);
        at(x, 3, 1, 0, 1, 0, 0);
        at(x, 4, 2, 1, 1, 0, 0);
        at(x, 7, 5, 1, 0, 0, 0);
        all(x, 1, 7, 0, 76, 117, 1, 3);
        x = door("nine ticks", "0sb", 7, 9);
        fate(x, 0, 0, 13, 0, 1);
        all(x, 1, 13, 0, 72, 111, 1, 9);
        x = door("a bag at a wide part", "2sb");
        fate(x, 0, 2, 7, 0, 0);
        // both together push it to speed 2 at tick 5
        x = door("two are caught", "0sb;0sb", 2, 4);
        fate(x, 0, 0, 6, 0, 1);
        fate(x, 1, 0, 6, 0, 1);
        at(x, 0, 1, 1, 3, 0, 3);
        x = door("a bag at a door that stands", "0sb", 3, 0, 4, 1);
        fate(x, 0, 0, 5, 0, 0);
        x = door("wheels are caught, too", "0st", 2, 3);
        fate(x, 0, 0, 7, 0, 1);
        x = door("one who walks is not caught", "0sw", 1, 3);
        check.due("not caught", x.fate(0, 3), 0);
    }

    private static void fearOfAQuickDoor() {
        // motor 4 keeps speed 2 from tick 1 on
        TurnDoor x = door("a bag fears a quick door", "1sb;2sw", 3, 4);
        fate(x, 0, -4, -4, 119, 0);
        fate(x, 1, -4, -4, 118, 0);
        at(x, 119, 239 % 12, 2, 0, 3, 0);
        all(x, 0, 120, 237, 79 * 2 + 2, 239, 0, 0);
        x = door("one who walks does not", "1sw", 3, 4);
        fate(x, 0, 1, 4, 0, 0);
    }

    private static void childrenGoWithAGrownOne() {
        TurnDoor x = door("a child alone", "0sc");
        fate(x, 0, -4, -4, 120, 0);
        all(x, 0, 120, 120);
        x = door("a child ahead of a grown one stops it", "0sc;0sw");
        fate(x, 0, -4, -4, 120, 0);
        fate(x, 1, -4, -4, 120, 0);
        at(x, 50, 51 % 12, 1, 0, 3, 0);
        x = door("a child behind a grown one", "0sw;0sc");
        fate(x, 0, 0, 2, 0, 0);
        fate(x, 1, 0, 2, 0, 0);
        check.due("16 both", x.shared(0, 1), 1);
        x = door("a child does not count as grown", "0sw;0sc;0sc", 2, 3);
        fate(x, 2, 0, 2, 0, 0);
        x = door("no room for it", "0sw;0sc", 2, 1);
        fate(x, 1, -4, -4, 120, 0);
        // the part with the greater share holds nobody; the dazed one goes by in the one behind it
        x = door("a child takes the part of the grown one", "0hd;3sc", 1, 1, 5, 1);
        within(x, 3, 0, 0, 3, 0);
        check.due("16 with the dazed one", x.shared(0, 1), 1);
        check.due("16 with the dazed one", x.shared(1, 0), 1);
    }

    private static void thoseInAHurry() {
        TurnDoor x = door("one in a hurry", "0sw;0sh", 2, 1);
        check.due("first", x.fate(1, 0), 0);
        check.due("behind it", x.fate(0, 2) > 0 ? 1 : 0, 1);
        within(x, 0, 2, 0, 0, 0);
        at(x, 0, 1, 1, 2, 1, 0);
        // with no motor and much drag nobody else gets in: the queue alone tells
        x = door("one who came earlier", "4sw;3sw;3sw;5sh", 2, 1, 3, 0, 4, 9, 8, 8);
        fate(x, 1, 3, 8, 0, 0);
        fate(x, 3, -4, 8, 3, 0);
        fate(x, 2, -4, 8, 5, 0);
        fate(x, 0, -4, 9, 5, 0);
    }

    private static void theDazedGoRound() {
        TurnDoor x = door("dazed", "0sd");
        fate(x, 0, 0, 8, 0, 0);
        at(x, 2, 5, 2, 1, 0, 0);
        at(x, 3, 7, 2, 1, 0, 0);
        at(x, 8, 5, 2, 0, 0, 0);
        x = door("two dazed ones", "0sd;0hd", 5, 1);
        fate(x, 0, 0, 16, 0, 0);
        fate(x, 1, 0, 16, 0, 0);
        x = door("dazed from the hall", "0hd", 5, 1);
        fate(x, 0, 0, 16, 0, 0);
        x = door("dazed with three leaves", "0sd", 0, 3, 1, 1, 5, 1);
        // part 0 is open to the hall at turns 3 to 8, and out of it at 3 once more
        fate(x, 0, 0, 14, 0, 0);
    }

    private static void lines() {
        TurnDoor x = door("one without room stops all behind it", "0st;0sw;0hw");
        fate(x, 0, -4, -4, 120, 0);
        fate(x, 1, -4, -4, 120, 0);
        fate(x, 2, 0, 2, 0, 0);
        x = door("the part with the greater share, then the next", "0sw;0sw;0sw", 1, 1, 2, 1);
        within(x, 0, 1, 0, 0, 2);
        at(x, 0, 1, 1, 3, 4, 0);
        check.due("16 not one part", x.shared(0, 1), 0);
        x = door("nobody gets into a part that is not open", "1sw", 1, 3);
        fate(x, 0, 2, 5, 1, 0);
        x = door("the last tick", "119sw;119st");
        check.due("waits", x.fate(1, 2), 1);
        check.due("waits", x.fate(1, 1), -4);
        x = door("of like ones the lesser number", "5sw;5sw;5sw", 2, 1, 3, 0, 4, 9);
        at(x, 5, 0, 0, 1, 6, 0);
    }

    private static void speeds() {
        TurnDoor x = door("the governor", "", 3, 20, 4, 1, 5, 3);
        at(x, 0, 1, 1, 0, 0, 0);
        at(x, 1, 3, 2, 0, 0, 0);
        at(x, 2, 6, 3, 0, 0, 0);
        at(x, 3, 9, 3, 0, 0, 0);
        check.due("steps", x.all(4), 1 + 2 + 118 * 3);
        x.set(5, 1);
        at(x, 9, 10, 1, 0, 0, 0);
        x = door("drag eats it", "0sh", 3, 0, 4, 2);
        // push 4: speed 1, then 2; behind it 1, then 0
        at(x, 0, 0, 0, 1, 0, 0);
        at(x, 1, 1, 1, 1, 0, 0);
        at(x, 2, 3, 2, 1, 0, 0);
        at(x, 3, 5, 2, 0, 0, 0);
        at(x, 4, 6, 1, 0, 0, 0);
        at(x, 5, 6, 0, 0, 0, 0);
        all(x, 1, 3, 0, 1 + 2, 6, 0, 1);
        x = door("one less than drag", "", 3, 3, 4, 4);
        at(x, 119, 0, 0, 0, 0, 0);
        check.due("nobody is there to see that it stands", x.all(6), 0);
        x = door("just drag", "", 3, 4, 4, 4);
        at(x, 119, 0, 1, 0, 0, 0);
    }

    private static void warmth() {
        TurnDoor x = door("cold and room", "", 6, 9, 2, 6);
        check.due("14 warmth", x.all(3), 40 * 54);
        x = door("no cold", "", 6, 0);
        check.due("14 warmth", x.all(3), 0);
        x = door("three leaves", "", 0, 3);
        check.due("14 warmth", x.all(3), 60);
        // turn 3: part 0 closes to the street and opens to the hall at once; they step out, then it loses all its room
        x = door("who steps out as it closes", "0sw", 0, 3, 1, 1, 5, 1);
        fate(x, 0, 0, 2, 0, 0);
        check.due("14 warmth", x.all(3), 60);
    }

    private static void folded() {
        TurnDoor x = door("folded at 5", "0sw;5sw;5sw;5sw;5hw;5hh;5hw;7sc", 3, 0, 4, 9, 8, 5);
        fate(x, 0, 0, 5, 0, 0);
        fate(x, 1, -4, 5, 0, 0);
        fate(x, 2, -4, 5, 0, 0);
        fate(x, 3, -4, 6, 1, 0);
        fate(x, 4, -4, 5, 0, 0);
        fate(x, 5, -4, 5, 0, 0);
        fate(x, 6, -4, 6, 1, 0);
        fate(x, 7, -4, 7, 0, 0);
        at(x, 4, 0, 0, 1, 0, 0);
        at(x, 5, 0, 0, 0, 72, 0);
        within(x, 4, 1, 0, 0, 0);
        within(x, 5, 0, 0, 0, 0);
        all(x, 8, 7, 2, 0, 0, 0, 5 + 1);
        check.due("16 not through folded leaves", x.shared(1, 2), 0);
        x = door("folded while stuck", "0sb", 7, 9, 8, 3);
        at(x, 2, 1, 0, 1, 0, 7);
        at(x, 3, 1, 0, 0, 0, 0);
        fate(x, 0, 0, 3, 0, 1);
        all(x, 1, 3, 0, 0, 1, 1, 2);
        x = door("folded from the first", "0sw;0st;0sc;119hd", 8, 0);
        fate(x, 0, -4, 0, 0, 0);
        fate(x, 1, -4, 0, 0, 0);
        fate(x, 2, -4, 1, 1, 0);
        fate(x, 3, -4, 119, 0, 0);
        all(x, 4, 119, 1, 0, 0, 0, 1);
        x = door("folded at the last", "0sw", 3, 0, 4, 9, 8, 119);
        fate(x, 0, 0, 119, 0, 0);
        x.set(8, 120);
        fate(x, 0, 0, -4, 0, 0);
    }

    private static void refusals() {
        TurnDoor x = door("refusals", "0sw;3hb");
        int[] far = {-1, Integer.MIN_VALUE, Integer.MAX_VALUE};
        for (int w : far) {
            check.due("11 nobody", x.fate(w, 0), -1);
            check.due("11 what", x.fate(0, w), -1);
            check.due("12 tick", x.at(w, 0), -1);
            check.due("12 what", x.at(0, w), -1);
            check.due("13 tick", x.within(w, 0), -1);
            check.due("13 part", x.within(0, w), -1);
            check.due("14 what", x.all(w), -1);
            check.due("15 what", x.count(w), -1);
            check.due("16 one", x.shared(w, 0), -1);
            check.due("16 other", x.shared(0, w), -1);
            check.due("16 none", x.shared(w, w), -1);
        }
        check.due("11 nobody", x.fate(2, 0), -1);
        check.due("11 what", x.fate(0, 4), -1);
        check.due("12 tick", x.at(120, 0), -1);
        check.due("12 what", x.at(0, 5), -1);
        check.due("13 tick", x.within(120, 0), -1);
        check.due("13 part", x.within(0, 4), -1);
        check.due("13 part 3 of four", x.within(0, 3), 0);
        x.set(0, 3);
        check.due("13 part 3 of three", x.within(0, 3), -1);
        check.due("14 what", x.all(7), -1);
        check.due("15 what", x.count(2), -1);
        check.due("16 one and the same", x.shared(0, 0), -1);
        check.due("16 nobody", x.shared(0, 2), -1);
    }

    private static void company() {
        check.due("16 the first call", Check.withPeople("0sw;0sw").shared(0, 1), 1);
        check.due("16 no room for both", door("company", "0sw;0sw", 2, 1).shared(0, 1), 0);
        check.due("16 of two sides", Check.withPeople("0sw;0hw").shared(0, 1), 0);
        TurnDoor x = door("company of three", "0sw;0sw;0sw;9sw", 2, 3);
        int[][] pairs = {{0, 1}, {0, 2}, {1, 2}, {1, 0}, {2, 0}, {2, 1}};
        for (int[] p : pairs) {
            check.due("16 all three", x.shared(p[0], p[1]), 1);
        }
        check.due("16 but not with the fourth", x.shared(0, 3), 0);
        x.delay(2, 30);
        check.due("16 not any more", x.shared(0, 2), 0);
    }

    /** One door through many settings, each compared with a door that never had others. */
    private static void changedSettings() {
        TurnDoor x = Check.withPeople("0sw;2hb;4sd;4sc");
        for (int i = 0; i < 24; i++) {
            int leaves = 3 + i % 2;
            int opening = 1 + i / 2 % 3;
            TurnDoor y = door("changed settings", "0sw;2hb;4sd;4sc", 0, leaves, 1, opening);
            x.set(0, leaves);
            x.set(1, opening);
            for (int p = 0; p < 4; p++) {
                fate(x, p, y.fate(p, 0), y.fate(p, 1), y.fate(p, 2), y.fate(p, 3));
            }
            check.due("14 lost", x.all(3), y.all(3));
        }
    }

    private static void counts() {
        TurnDoor x = door("counts", "0sw;0hw;3sb;9sd;8hc");
        check.due("15 people", x.count(0), 5);
        check.due("15 to the hall", x.count(1), 3);
        x.clear();
        check.due("15 people", x.count(0), 0);
        check.due("15 to the hall", x.count(1), 0);
    }

    public static void main(String[] args) {
        oneWalks();
        oneComesFromTheHall();
        oneWithABag();
        fearOfAQuickDoor();
        childrenGoWithAGrownOne();
        thoseInAHurry();
        theDazedGoRound();
        lines();
        speeds();
        warmth();
        folded();
        refusals();
        company();
        changedSettings();
        counts();
        check.end("GoingOnTest");
    }
}
