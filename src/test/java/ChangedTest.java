import java.util.ArrayList;
import java.util.Arrays;
import java.util.List;

/**
 * Whatever has been asked before, a change is seen by all later calls: they answer as on a door that was changed
 * before anybody asked.
 */
public final class ChangedTest {
    private static final Check check = new Check();

    private interface Change {
        int on(TurnDoor x);
    }

    private record Named(String name, Change change) {
    }

    private static List<Named> changes() {
        List<Named> all = new ArrayList<>();
        int[][] sets = {{0, 3}, {0, 4}, {1, 1}, {1, 3}, {2, 1}, {2, 6}, {3, 0}, {3, 20}, {4, 1}, {4, 9}, {5, 1}, {5, 3}, {6, 0}, {6, 9},
            {7, 1}, {7, 9}, {8, 0}, {8, 10}, {8, 119}, {8, 120}};
        for (int[] s : sets) {
            all.add(new Named("set(" + s[0] + ", " + s[1] + ")", x -> x.set(s[0], s[1])));
        }
        all.add(new Named("clear()", x -> x.clear()));
        all.add(new Named("clear(), person(0, 0, 1)", x -> x.clear() + x.person(0, 0, 1)));
        all.add(new Named("clear(), person(5, 1, 5), person(0, 0, 0)", x -> x.clear() + x.person(5, 1, 5) + x.person(0, 0, 0)));
        // number 3 was a child in one of the states, and is grown now
        all.add(new Named("clear(), others come", x -> {
            x.clear();
            Check.come(x, "0hw;1hd;2hw;5sw;5sc;7hc");
            return x.count(0);
        }));
        all.add(new Named("person(1, 0, 4)", x -> x.person(1, 0, 4)));
        all.add(new Named("person(119, 1, 0)", x -> x.person(119, 1, 0)));
        all.add(new Named("delay(0, 119)", x -> x.delay(0, 119)));
        all.add(new Named("delay(7, 0)", x -> x.delay(7, 0)));
        all.add(new Named("restore()", x -> x.restore()));
        all.add(new Named("image()", x -> x.image()));
        all.add(new Named("type, people()", x -> x.type('3' << 16 | 's' << 8 | 'w', 3) + x.people()));
        all.add(new Named("clear(), people()", x -> x.clear() + x.people()));
        all.add(new Named("sheet(0, 2, 16)", x -> x.sheet(0, 2, 16)));
        all.add(new Named("drop(0)", x -> x.drop(0)));
        all.add(new Named("item(0, 0, 1, 9)", x -> x.item(0, 0, 1, 9)));
        all.add(new Named("film(0, 0, 1)", x -> x.film(0, 0, 1)));
        return all;
    }

    private static void compare(int state, int aspect, Named n) {
        TurnDoor asked = Shown.build(state);
        Shown.warm(asked);
        TurnDoor fresh = Shown.build(state);
        String where = "state " + state + ", " + n.name;
        check.due(where, n.change.on(asked), n.change.on(fresh));
        int[] got = Shown.by(asked, aspect);
        int[] want = Shown.by(fresh, aspect);
        check.holds(where + ": later calls (" + aspect + ") show " + Arrays.toString(got) + ", due is " + Arrays.toString(want),
            Arrays.equals(got, want));
    }

    public static void main(String[] args) {
        check.due("stuck at the end", Shown.build(Shown.STUCK).at(119, 4), 5);
        check.due("people inside at the end", Shown.build(Shown.STUCK).at(119, 2), 1 << 2 | 1 << 3);
        for (int state = 0; state < Shown.STATES; state++) {
            for (int aspect = 0; aspect < Shown.ASPECTS; aspect++) {
                for (Named n : changes()) {
                    compare(state, aspect, n);
                }
            }
        }
        check.end("ChangedTest");
    }
}
