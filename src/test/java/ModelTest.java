import java.util.Random;

/** Random runs of calls, right and wrong ones, on a door and on the model: both must answer alike. */
public final class ModelTest {
    private static final Check check = new Check();
    private static final String[] TEXTS = {"0sw;0hw", "1sb;2hc;3ht", " 3 s h ;4sd", "9hb", "0st;0sc;0sc", "119sw", "120sw",
        "5hw;", "1 2sw", "5hx", "0sd;0hd;0sd", "1sw;1sw;1sw;1sw;1sw;1sw;1sw;1sw;", "1sh;1sh;1sh;1sh;1sh;1sh;1sh;1sh", ";", " ",
        "00007hc", "99999999999999999999sw", "4hb;;", "s", "12", "12 ", "12s ", "12s w ;", "7hcw"};

    private final Random random;
    private final TurnDoor door = new TurnDoor();
    private final Model model = new Model();
    private final StringBuilder calls = new StringBuilder();
    private int made;

    private ModelTest(long seed) {
        random = new Random(seed);
    }

    /** Mostly from low to high, now and then beside it. */
    private int some(int low, int high) {
        int r = random.nextInt(60);
        if (r == 0) {
            return low - 1;
        }
        if (r == 1) {
            return high + 1;
        }
        if (r == 2) {
            return random.nextBoolean() ? Integer.MIN_VALUE : Integer.MAX_VALUE;
        }
        return low + random.nextInt(high - low + 1);
    }

    private int early() {
        return random.nextInt(6) == 0 ? some(0, 119) : random.nextInt(14);
    }

    private int one() {
        return some(0, Math.max(0, model.folk.size() - 1));
    }

    private void due(String call, int got, int want) {
        made++;
        calls.append(call).append(" = ").append(want).append('\n');
        int before = check.wrong();
        check.due(call, got, want);
        if (check.wrong() == 1 && before == 0) {
            System.out.println("behind these calls:\n" + calls);
        }
    }

    private void change() {
        int a;
        int b;
        int c;
        switch (random.nextInt(12)) {
            case 0, 1, 2:
                a = some(0, 8);
                b = a >= 0 && a <= 8 ? some(Model.LOW[a], Model.HIGH[a]) : random.nextInt(4);
                b = a == 8 && random.nextInt(3) > 0 ? 120 : a == 3 && random.nextBoolean() ? random.nextInt(5) : b;
                due("set(" + a + ", " + b + ")", door.set(a, b), model.set(a, b));
                break;
            case 3, 4, 5, 6, 7:
                a = early();
                b = some(0, 1);
                c = some(0, 5);
                due("person(" + a + ", " + b + ", " + c + ")", door.person(a, b, c), model.person(a, b, c));
                break;
            case 8:
                a = one();
                b = early();
                due("delay(" + a + ", " + b + ")", door.delay(a, b), model.delay(a, b));
                break;
            case 9:
                tape();
                break;
            case 10:
                if (random.nextInt(3) == 0) {
                    due("image()", door.image(), model.image());
                } else if (random.nextInt(3) == 0) {
                    due("restore()", door.restore(), model.restore());
                } else if (random.nextInt(5) == 0) {
                    due("clear()", door.clear(), model.clear());
                }
                break;
            default:
                sheets();
        }
    }

    private void tape() {
        String text = TEXTS[random.nextInt(TEXTS.length)];
        for (int i = 0; i < text.length(); i += 8) {
            int n = Math.min(8, text.length() - i);
            long w = random.nextLong();
            for (int k = 0; k < n; k++) {
                w = w << 8 | text.charAt(i + k);
            }
            due("type(" + w + ", " + n + ")", door.type(w, n), model.type(w, n));
        }
        if (random.nextInt(4) == 0) {
            long w = random.nextLong();
            int n = some(1, 8);
            due("type(" + w + ", " + n + ")", door.type(w, n), model.type(w, n));
        }
        if (random.nextInt(4) > 0) {
            due("people()", door.people(), model.people());
        }
    }

    private void sheets() {
        int s = some(0, 3);
        int lane = some(0, 2);
        int n;
        switch (random.nextInt(6)) {
            case 0, 1:
                n = some(0, 16);
                due("sheet(" + s + ", " + lane + ", " + n + ")", door.sheet(s, lane, n), model.sheet(s, lane, n));
                break;
            case 2:
                due("drop(" + s + ")", door.drop(s), model.drop(s));
                break;
            case 3:
                n = some(0, 8);
                due("film(" + s + ", " + lane + ", " + n + ")", door.film(s, lane, n), model.film(s, lane, n));
                break;
            default:
                n = some(0, 15);
                int v = random.nextInt(4) == 0 ? random.nextInt() : random.nextInt(14);
                due("item(" + s + ", " + lane + ", " + n + ", " + v + ")", door.item(s, lane, n, v), model.item(s, lane, n, v));
        }
    }

    private void ask() {
        int a = one();
        int b = one();
        int t = some(0, 119);
        int w = some(0, 6);
        int what;
        due("told(" + a + ", " + w + ")", door.told(a, w), model.told(a, w));
        due("count(" + w + ")", door.count(w), model.count(w));
        due("shared(" + a + ", " + b + ")", door.shared(a, b), model.shared(a, b));
        due("without(" + a + ")", door.without(a), model.without(a));
        for (what = -1; what <= 4; what++) {
            due("fate(" + a + ", " + what + ")", door.fate(a, what), model.fate(a, what));
        }
        for (what = -1; what <= 7; what++) {
            due("all(" + what + ")", door.all(what), model.all(what));
        }
        int part = some(0, 3);
        int side = some(0, 1);
        int turn = some(0, 11);
        due("share(" + part + ", " + side + ", " + turn + ")", door.share(part, side, turn), model.share(part, side, turn));
        due("open(" + side + ", " + turn + ")", door.open(side, turn), model.open(side, turn));
        due("within(" + t + ", " + part + ")", door.within(t, part), model.within(t, part));
        what = some(0, 4);
        due("at(" + t + ", " + what + ")", door.at(t, what), model.at(t, what));
        if (random.nextInt(4) == 0) {
            t = early();
            due("motor(" + t + ")", door.motor(t), model.motor(t));
            t = random.nextBoolean() ? t : 30 + random.nextInt(90);
            due("motor(" + t + ")", door.motor(t), model.motor(t));
            what = some(0, 3);
            due("warmest(" + t + ", " + what + ")", door.warmest(t, what), model.warmest(t, what));
        }
        if (random.nextInt(12) == 0) {
            what = random.nextInt(1 << Math.max(1, Math.min(12, model.folk.size() + (random.nextInt(9) == 0 ? 1 : 0))));
            int i = some(-2, Math.max(0, Integer.bitCount(what) - 1));
            // the model takes its time over the longest rows
            if (Integer.bitCount(what) != 6 || random.nextInt(5) == 0) {
                due("orders(" + what + ", " + i + ")", door.orders(what, i), model.orders(what, i));
                due("orders(" + what + ", -1)", door.orders(what, -1), model.orders(what, -1));
            }
        }
        if (random.nextInt(8) == 0) {
            askTimes();
        }
    }

    private void askTimes() {
        int s = random.nextInt(4);
        int lane = model.sheets[s] == null || random.nextInt(9) == 0 ? some(0, 2) : model.lanes[s];
        int n = some(1, random.nextBoolean() ? 8 : 2);
        int from = some(0, 6);
        if (random.nextInt(3) > 0 && model.folk.size() > 0 && model.sheets[s] != null && model.sheets[s].length > 1) {
            lane = model.lanes[s];
            n = 1 + random.nextInt(model.sheets[s].length / 2);
            from = random.nextInt(model.sheets[s].length - 2 * n + 1);
            Model.World w = model.with(3, random.nextInt(21), 4, 1 + random.nextInt(9));
            for (int i = 0; i < n; i++) {
                int p = random.nextInt(model.folk.size());
                int end = random.nextInt(9) == 0 ? some(0, 120) : w.end[p];
                due("item(" + s + ", " + lane + ", " + (from + 2 * i) + ", " + p + ")",
                    door.item(s, lane, from + 2 * i, p), model.item(s, lane, from + 2 * i, p));
                due("item(" + s + ", " + lane + ", " + (from + 2 * i + 1) + ", " + end + ")",
                    door.item(s, lane, from + 2 * i + 1, end), model.item(s, lane, from + 2 * i + 1, end));
            }
        }
        for (int what = 0; what <= 2; what++) {
            due("times(" + s + ", " + lane + ", " + from + ", " + n + ", " + what + ")",
                door.times(s, lane, from, n, what), model.times(s, lane, from, n, what));
        }
        due("times(" + s + ", " + lane + ", " + from + ", " + n + ", 3)", door.times(s, lane, from, n, 3), -1);
    }

    public static void main(String[] args) {
        int runs = args.length > 0 ? Integer.parseInt(args[0]) : 600;
        for (int seed = 0; seed < runs && check.wrong() == 0; seed++) {
            ModelTest run = new ModelTest(seed);
            // one step makes less than a hundred calls, and an object is promised 512
            for (int i = 0; i < 14 && run.made <= 412; i++) {
                int changes = 1 + run.random.nextInt(4);
                for (int k = 0; k < changes; k++) {
                    run.change();
                }
                run.ask();
            }
        }
        check.end("ModelTest");
    }
}
