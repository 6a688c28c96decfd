import java.util.ArrayList;
import java.util.Arrays;
import java.util.List;

/** The document once more, sentence by sentence and without any thought of speed, to compare TurnDoor with. */
final class Model {
    static final class Person {
        final int number;
        int tick;
        final int side;
        final int kind;

        Person(int number, int tick, int side, int kind) {
            this.number = number;
            this.tick = tick;
            this.side = side;
            this.kind = kind;
        }

        int size() {
            return kind == 1 ? 2 : kind == 2 ? 3 : 1;
        }

        int push() {
            return new int[] {2, 1, 1, 0, 4, 2}[kind];
        }

        boolean bag() {
            return kind == 1 || kind == 2;
        }

        Person copy() {
            return new Person(number, tick, side, kind);
        }
    }

    static int share(int leaves, int part, int side, int turn) {
        int n = 0;
        for (int k = 0; k < 12 / leaves; k++) {
            int sector = (turn + part * (12 / leaves) + k) % 12;
            if (side == 0 ? sector == 0 || sector == 1 || sector == 2 : sector == 6 || sector == 7 || sector == 8) {
                n++;
            }
        }
        return n;
    }

    /** One run of 120 ticks. */
    static final class World {
        final int[] set;
        final List<Person> folk;
        final int[] in = new int[12], part = new int[12], end = new int[12], till = new int[12], openings = new int[12];
        final boolean[] was = new boolean[12], caught = new boolean[12], waits = new boolean[12];
        final boolean[][] met = new boolean[12][12];
        final int[][] at = new int[120][5];
        final int[][] within = new int[120][4];
        int turn, speed, stuck, lost, steps, idle;

        World(int[] set, List<Person> folk) {
            this.set = set;
            this.folk = folk;
            Arrays.fill(in, -4);
            Arrays.fill(part, -1);
            Arrays.fill(end, 120);
            Arrays.fill(till, 120);
            for (int t = 0; t < 120; t++) {
                tick(t);
                record(t);
            }
        }

        boolean open(int part, int side) {
            return share(set[0], part, side, turn) >= set[1];
        }

        int left(int p) {
            int room = set[2];
            for (Person x : folk) {
                if (part[x.number] == p) {
                    room -= x.size();
                }
            }
            return Math.max(0, room);
        }

        void tick(int t) {
            for (Person x : folk) {
                if (x.tick == t) {
                    waits[x.number] = true;
                }
            }
            if (t >= set[8]) {
                speed = 0;
                stuck = 0;
                for (Person x : folk) {
                    if (part[x.number] >= 0) {
                        part[x.number] = -1;
                        end[x.number] = t;
                    }
                }
                for (int side = 0; side < 2; side++) {
                    List<Person> line = line(side);
                    for (int i = 0; i < 2 && i < line.size(); i++) {
                        int n = line.get(i).number;
                        waits[n] = false;
                        till[n] = t;
                        end[n] = t;
                    }
                }
                return;
            }
            if (stuck > 0) {
                speed = 0;
                stuck--;
            } else {
                int push = set[3];
                for (Person x : folk) {
                    if (part[x.number] >= 0) {
                        push += x.push();
                    }
                }
                if (push >= set[4] * (speed + 1) && speed < set[5]) {
                    speed++;
                } else if (push < set[4] * speed) {
                    speed--;
                }
            }
            for (int i = 0; i < speed; i++) {
                step(t);
            }
            for (int side = 0; side < 2; side++) {
                for (Person x : line(side)) {
                    if (!enters(x, t)) {
                        break;
                    }
                }
            }
        }

        void step(int t) {
            boolean[] streetOpen = new boolean[set[0]];
            for (int p = 0; p < set[0]; p++) {
                streetOpen[p] = open(p, 0);
            }
            turn = (turn + 1) % 12;
            steps++;
            for (Person x : folk) {
                int n = x.number;
                if (part[n] < 0) {
                    continue;
                }
                boolean is = open(part[n], 1 - x.side);
                if (is && !was[n]) {
                    openings[n]++;
                }
                was[n] = is;
                if (is && (x.kind != 5 || openings[n] > 1)) {
                    part[n] = -1;
                    end[n] = t;
                }
            }
            for (int p = 0; p < set[0]; p++) {
                if (streetOpen[p] && !open(p, 0)) {
                    lost += set[6] * left(p);
                }
            }
        }

        List<Person> line(int side) {
            List<Person> line = new ArrayList<>();
            for (Person x : folk) {
                if (x.side == side && waits[x.number]) {
                    line.add(x);
                }
            }
            line.sort((a, b) -> {
                int hurry = Boolean.compare(b.kind == 4, a.kind == 4);
                int came = Integer.compare(a.tick, b.tick);
                return hurry != 0 ? hurry : came != 0 ? came : Integer.compare(a.number, b.number);
            });
            return line;
        }

        boolean enters(Person x, int t) {
            if (x.bag() && speed >= 2) {
                return false;
            }
            int best = -1;
            for (int p = set[0] - 1; p >= 0; p--) {
                boolean grown = false;
                for (Person y : folk) {
                    grown |= part[y.number] == p && y.kind != 3;
                }
                if (open(p, x.side) && left(p) >= x.size() && (x.kind != 3 || grown)
                        && (best < 0 || share(set[0], p, x.side, turn) >= share(set[0], best, x.side, turn))) {
                    best = p;
                }
            }
            if (best < 0) {
                return false;
            }
            waits[x.number] = false;
            in[x.number] = t;
            till[x.number] = t;
            part[x.number] = best;
            if (x.bag() && speed == 1 && share(set[0], best, x.side, turn) == set[1]) {
                caught[x.number] = true;
                stuck = set[7];
            }
            return true;
        }

        void record(int t) {
            int inside = 0;
            int waiting = 0;
            for (Person x : folk) {
                int n = x.number;
                waiting |= waits[n] ? 1 << n : 0;
                if (part[n] >= 0) {
                    inside |= 1 << n;
                    within[t][part[n]] |= 1 << n;
                    for (Person y : folk) {
                        met[n][y.number] |= part[y.number] == part[n];
                    }
                }
            }
            at[t] = new int[] {turn, speed, inside, waiting, stuck};
            if (speed == 0 && (inside != 0 || waiting != 0)) {
                idle++;
            }
        }

        int last() {
            int last = 0;
            for (Person x : folk) {
                last = Math.max(last, end[x.number]);
            }
            return last;
        }

        int waitsOfAll() {
            int sum = 0;
            for (Person x : folk) {
                sum += till[x.number] - x.tick;
            }
            return sum;
        }
    }

    int[] set = {4, 2, 2, 2, 2, 2, 1, 3, 120};
    List<Person> folk = new ArrayList<>();
    String tape = "";
    int[][] sheets = new int[4][];
    int[] lanes = new int[4];
    int[] keptSet;
    List<Person> keptFolk;

    static final int[] LOW = {3, 1, 1, 0, 1, 1, 0, 1, 0};
    static final int[] HIGH = {4, 3, 6, 20, 9, 3, 9, 9, 120};

    World world() {
        return new World(set, folk);
    }

    static List<Person> copies(List<Person> folk) {
        List<Person> copies = new ArrayList<>();
        for (Person x : folk) {
            copies.add(x.copy());
        }
        return copies;
    }

    boolean nobody(int person) {
        return person < 0 || person >= folk.size();
    }

    static boolean off(int v, int low, int high) {
        return v < low || v > high;
    }

    int set(int what, int v) {
        if (off(what, 0, 8) || off(v, LOW[what], HIGH[what])) {
            return -1;
        }
        int before = set[what];
        set[what] = v;
        return before;
    }

    int share(int part, int side, int turn) {
        return off(part, 0, set[0] - 1) || off(side, 0, 1) || off(turn, 0, 11) ? -1 : share(set[0], part, side, turn);
    }

    int open(int side, int turn) {
        if (off(side, 0, 1) || off(turn, 0, 11)) {
            return -1;
        }
        int parts = 0;
        for (int p = 0; p < set[0]; p++) {
            parts += share(set[0], p, side, turn) >= set[1] ? 1 << p : 0;
        }
        return parts;
    }

    int person(int tick, int side, int kind) {
        if (off(tick, 0, 119) || off(side, 0, 1) || off(kind, 0, 5)) {
            return -1;
        }
        if (folk.size() == 12) {
            return -3;
        }
        folk.add(new Person(folk.size(), tick, side, kind));
        return folk.size() - 1;
    }

    int told(int person, int what) {
        if (nobody(person) || off(what, 0, 4)) {
            return -1;
        }
        Person x = folk.get(person);
        return new int[] {x.tick, x.side, x.kind, x.size(), x.push()}[what];
    }

    int delay(int person, int tick) {
        if (nobody(person) || off(tick, 0, 119)) {
            return -1;
        }
        int before = folk.get(person).tick;
        folk.get(person).tick = tick;
        return before;
    }

    int clear() {
        int n = folk.size();
        folk.clear();
        return n;
    }

    int type(long w, int n) {
        if (off(n, 1, 8)) {
            return -1;
        }
        StringBuilder text = new StringBuilder();
        for (int i = n - 1; i >= 0; i--) {
            int b = (int) (w >>> 8 * i & 255);
            if (off(b, 32, 126)) {
                return -1;
            }
            text.append((char) b);
        }
        if (tape.length() + n > 80) {
            return -3;
        }
        tape += text;
        return tape.length();
    }

    /** A machine of states over single bytes: 0 ahead of a number, 1 in it, 2 behind it, 3 behind the side, 4 behind the kind. */
    int people() {
        String text = tape;
        tape = "";
        List<int[]> found = new ArrayList<>();
        int state = 0;
        int first = 0;
        int[] now = new int[3];
        for (int i = 0; i <= text.length(); i++) {
            boolean end = i == text.length();
            char c = end ? '\0' : text.charAt(i);
            boolean digit = c >= '0' && c <= '9';
            if (state == 1 && !digit) {
                if (new java.math.BigInteger(text.substring(first, i)).compareTo(java.math.BigInteger.valueOf(119)) > 0) {
                    return -20 - first;
                }
                now[0] = Integer.parseInt(text.substring(first, i));
                state = 2;
            }
            if (c == ' ') {
                continue;
            }
            if (end && state == 4) {
                break;
            }
            if (digit && state <= 1) {
                first = state == 0 ? i : first;
                state = 1;
            } else if ((c == 's' || c == 'h') && state == 2) {
                now[1] = c == 's' ? 0 : 1;
                state = 3;
            } else if (!end && "wbtchd".indexOf(c) >= 0 && state == 3) {
                now[2] = "wbtchd".indexOf(c);
                found.add(now.clone());
                state = 4;
            } else if (c == ';' && state == 4 && found.size() < 8) {
                state = 0;
            } else {
                return -20 - i;
            }
        }
        if (folk.size() + found.size() > 12) {
            return -3;
        }
        for (int[] x : found) {
            person(x[0], x[1], x[2]);
        }
        return found.size();
    }

    int fate(int person, int what) {
        if (nobody(person) || off(what, 0, 3)) {
            return -1;
        }
        World w = world();
        return new int[] {w.in[person], w.end[person] == 120 ? -4 : w.end[person],
            w.till[person] - folk.get(person).tick, w.caught[person] ? 1 : 0}[what];
    }

    int at(int tick, int what) {
        return off(tick, 0, 119) || off(what, 0, 4) ? -1 : world().at[tick][what];
    }

    int within(int tick, int part) {
        return off(tick, 0, 119) || off(part, 0, set[0] - 1) ? -1 : world().within[tick][part];
    }

    int all(int what) {
        if (off(what, 0, 6)) {
            return -1;
        }
        World w = world();
        int through = 0;
        int caught = 0;
        for (Person x : folk) {
            through += w.end[x.number] < 120 ? 1 : 0;
            caught += w.caught[x.number] ? 1 : 0;
        }
        return new int[] {through, w.last(), w.waitsOfAll(), w.lost, w.steps, caught, w.idle}[what];
    }

    int count(int what) {
        if (off(what, 0, 1)) {
            return -1;
        }
        int hall = 0;
        for (Person x : folk) {
            hall += 1 - x.side == 1 ? 1 : 0;
        }
        return what == 0 ? folk.size() : hall;
    }

    int shared(int one, int other) {
        return nobody(one) || nobody(other) || one == other ? -1 : world().met[one][other] ? 1 : 0;
    }

    World with(int what, int v, int other, int u) {
        int[] changed = set.clone();
        changed[what] = v;
        changed[other] = u;
        return new World(changed, folk);
    }

    int motor(int tick) {
        if (off(tick, 0, 119)) {
            return -1;
        }
        for (int m = 0; m <= 20; m++) {
            if (with(3, m, 3, m).last() <= tick) {
                return m;
            }
        }
        return -4;
    }

    int warmest(int tick, int what) {
        if (off(tick, 0, 119) || off(what, 0, 3)) {
            return -1;
        }
        int[] best = null;
        for (int leaves = 3; leaves <= 4; leaves++) {
            for (int opening = 1; opening <= 3; opening++) {
                for (int governor = 1; governor <= 3; governor++) {
                    int[] changed = set.clone();
                    changed[0] = leaves;
                    changed[1] = opening;
                    changed[5] = governor;
                    World w = new World(changed, folk);
                    if (w.last() <= tick && (best == null || w.lost < best[3])) {
                        best = new int[] {leaves, opening, governor, w.lost};
                    }
                }
            }
        }
        return best == null ? -4 : best[what];
    }

    int orders(int some, int i) {
        if (some == 0 || Integer.bitCount(some) > 6 || (some & ~((1 << folk.size()) - 1)) != 0
                || off(i, -2, Integer.bitCount(some) - 1)) {
            return -1;
        }
        List<Integer> who = new ArrayList<>();
        List<Integer> ticks = new ArrayList<>();
        for (Person x : folk) {
            if ((some & 1 << x.number) != 0) {
                who.add(x.number);
                ticks.add(x.tick);
            }
        }
        ticks.sort(null);
        int[] best = rows(who, ticks, new ArrayList<>(), null);
        return i < 0 ? best[-1 - i] : best[2 + i];
    }

    /** All rows by taking each of those left over; the best as {last, waits, row}. */
    int[] rows(List<Integer> who, List<Integer> ticks, List<Integer> row, int[] best) {
        if (row.size() < who.size()) {
            int[] found = best;
            for (int x : who) {
                if (!row.contains(x)) {
                    row.add(x);
                    found = rows(who, ticks, row, found);
                    row.remove(row.size() - 1);
                }
            }
            return found;
        }
        List<Person> dealt = copies(folk);
        int[] now = new int[2 + row.size()];
        for (int k = 0; k < row.size(); k++) {
            dealt.get(row.get(k)).tick = ticks.get(k);
            now[2 + k] = row.get(k);
        }
        World w = new World(set, dealt);
        now[0] = w.last();
        now[1] = w.waitsOfAll();
        return best == null || Arrays.compare(now, best) < 0 ? now : best;
    }

    int machine(int sheet, int lane, int from, int n) {
        if (sheets[sheet] == null) {
            return -11;
        }
        if (lanes[sheet] != lane) {
            return -12;
        }
        return from < 0 || (long) from + n > sheets[sheet].length ? -13 : 0;
    }

    int times(int sheet, int lane, int from, int n, int what) {
        if (off(sheet, 0, 3) || off(lane, 0, 2) || off(n, 1, 8) || off(what, 0, 2)) {
            return -1;
        }
        int refused = machine(sheet, lane, from, 2 * n);
        if (refused != 0) {
            return refused;
        }
        int[] row = sheets[sheet];
        for (int i = 0; i < n; i++) {
            if (nobody(row[from + 2 * i]) || off(row[from + 2 * i + 1], 0, 120)) {
                return -2;
            }
        }
        int found = 0;
        int firstMotor = -4;
        int firstDrag = -4;
        for (int m = 0; m <= 20; m++) {
            for (int d = 1; d <= 9; d++) {
                World w = with(3, m, 4, d);
                boolean same = true;
                for (int i = 0; i < n; i++) {
                    same &= w.end[row[from + 2 * i]] == row[from + 2 * i + 1];
                }
                if (same) {
                    firstMotor = found == 0 ? m : firstMotor;
                    firstDrag = found == 0 ? d : firstDrag;
                    found++;
                }
            }
        }
        return what == 0 ? found : what == 1 ? firstMotor : firstDrag;
    }

    int without(int person) {
        if (nobody(person)) {
            return -100001;
        }
        List<Person> others = copies(folk);
        others.remove(person);
        return world().lost - new World(set, others).lost;
    }

    int image() {
        keptSet = set.clone();
        keptFolk = copies(folk);
        return 1;
    }

    int restore() {
        if (keptSet == null) {
            return -4;
        }
        set = keptSet.clone();
        folk = copies(keptFolk);
        return 1;
    }

    int sheet(int sheet, int lane, int n) {
        if (off(sheet, 0, 3) || off(lane, 0, 2) || n > 16) {
            return -1;
        }
        if (n < 0) {
            return -14;
        }
        sheets[sheet] = new int[n];
        lanes[sheet] = lane;
        return n;
    }

    int drop(int sheet) {
        if (off(sheet, 0, 3)) {
            return -1;
        }
        if (sheets[sheet] == null) {
            return -11;
        }
        int n = sheets[sheet].length;
        sheets[sheet] = null;
        return n;
    }

    static int lowest(int lane, int v) {
        return lane == 0 ? (byte) v : lane == 1 ? (short) v : v;
    }

    int item(int sheet, int lane, int i, int v) {
        if (off(sheet, 0, 3) || off(lane, 0, 2)) {
            return -1;
        }
        int refused = machine(sheet, lane, i, 1);
        if (refused != 0) {
            return refused;
        }
        sheets[sheet][i] = lowest(lane, v);
        return 1;
    }

    int film(int sheet, int lane, int from) {
        if (off(sheet, 0, 3) || off(lane, 0, 2)) {
            return -1;
        }
        int refused = machine(sheet, lane, from, folk.size());
        if (refused != 0) {
            return refused;
        }
        World w = world();
        for (Person x : folk) {
            sheets[sheet][from + x.number] = w.end[x.number];
        }
        return folk.size();
    }
}
