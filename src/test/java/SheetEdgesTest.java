/** Promises 24 to 27, sentence by sentence. An item is read by times: as a tick, at which one is through or not. */
public final class SheetEdgesTest {
    private static final Check check = new Check();
    private static final int BAD = TurnDoor.BAD, NULL = TurnDoor.NULL, CAST = TurnDoor.CAST, INDEX = TurnDoor.INDEX,
        SIZE = TurnDoor.SIZE, NOT = TurnDoor.NOT;
    private static final int FAR_DOWN = Integer.MIN_VALUE, FAR_UP = Integer.MAX_VALUE;
    private static final int[] NO_SHEET = {-1, 4, FAR_DOWN, FAR_UP};
    private static final int[] NO_LANE = {-1, 3, FAR_DOWN, FAR_UP};
    private static final int[] NO_NUMBER = {-1, FAR_DOWN, FAR_DOWN + 1};

    private static void sheets() {
        check.says("A SHEET holds a new row of a LANE: n. BAD: also n above 16; SIZE: n below 0.");
        TurnDoor x = new TurnDoor();
        for (int sheet = 0; sheet < 4; sheet++) {
            for (int lane = 0; lane < 3; lane++) {
                check.due("the shortest", x.sheet(sheet, lane, 0), 0);
                check.due("the longest", x.sheet(sheet, lane, 16), 16);
                check.due("its last item", x.item(sheet, lane, 15, 1), 1);
                check.due("a lane below or above", x.item(sheet, (lane + 1) % 3, 15, 1), CAST);
                check.due("n 17", x.sheet(sheet, lane, 17), BAD);
                check.due("n far above", x.sheet(sheet, lane, FAR_UP), BAD);
                check.due("n -1", x.sheet(sheet, lane, -1), SIZE);
                check.due("n far below", x.sheet(sheet, lane, FAR_DOWN), SIZE);
                check.due("the longest is there yet", x.item(sheet, lane, 15, 1), 1);
            }
        }
        for (int sheet : NO_SHEET) {
            check.due("sheet(" + sheet + ", 0, 1)", x.sheet(sheet, 0, 1), BAD);
            check.due("BAD ahead of SIZE", x.sheet(sheet, 0, -1), BAD);
        }
        for (int lane : NO_LANE) {
            check.due("sheet(0, " + lane + ", 1)", x.sheet(0, lane, 1), BAD);
            check.due("BAD ahead of SIZE", x.sheet(0, lane, -1), BAD);
        }
        check.says("a new row");
        x = Check.door("0sc");
        x.sheet(0, 2, 2);
        x.item(0, 2, 1, 120);
        check.due("a child alone is never through", x.times(0, 2, 0, 1, 0), 189);
        x.sheet(0, 2, 2);
        check.due("items are 0 again", x.times(0, 2, 0, 1, 0), 0);
        x.item(0, 2, 0, 1);
        check.due("nobody", x.times(0, 2, 0, 1, 0), NOT);
        x.sheet(0, 2, 2);
        check.due("the first item, too", x.times(0, 2, 0, 1, 0), 0);
        x.item(0, 2, 1, 120);
        x.sheet(0, 2, 1);
        x.sheet(0, 2, 2);
        check.due("0 behind a shorter row, too", x.times(0, 2, 0, 1, 0), 0);
        check.due("a row of another lane takes its place", x.sheet(0, 1, 3), 3);
        check.due("the lane it had", x.item(0, 2, 0, 1), CAST);
        check.due("others are nothing yet", x.drop(1), NULL);
    }

    private static void drops() {
        check.says("A SHEET holds nothing: how many items it had. BAD; NULL.");
        TurnDoor x = new TurnDoor();
        for (int sheet = 0; sheet < 4; sheet++) {
            check.due("at first", x.drop(sheet), NULL);
            x.sheet(sheet, 0, 0);
            check.due("an empty row", x.drop(sheet), 0);
            check.due("nothing", x.drop(sheet), NULL);
            x.sheet(sheet, 2, 16);
            check.due("the longest row", x.drop(sheet), 16);
            check.due("nothing", x.drop(sheet), NULL);
        }
        x.sheet(0, 0, 5);
        check.due("a refused row", x.sheet(1, 0, -1), SIZE);
        check.due("makes none", x.drop(1), NULL);
        check.due("another one stays", x.drop(0), 5);
        for (int sheet : NO_SHEET) {
            check.due("drop(" + sheet + ")", x.drop(sheet), BAD);
        }
    }

    private static void items() {
        check.says("item: BAD; NULL; CAST; INDEX.");
        TurnDoor x = new TurnDoor();
        for (int sheet : NO_SHEET) {
            check.due("BAD ahead of all: sheet " + sheet, x.item(sheet, 0, -1, 1), BAD);
        }
        for (int lane : NO_LANE) {
            check.due("BAD ahead of NULL: lane " + lane, x.item(0, lane, -1, 1), BAD);
        }
        check.due("NULL", x.item(0, 0, 0, 1), NULL);
        check.due("NULL ahead of INDEX", x.item(3, 2, -1, 1), NULL);
        for (int lane = 0; lane < 3; lane++) {
            x.sheet(0, lane, 3);
            for (int wrong : NO_LANE) {
                check.due("BAD ahead of CAST: lane " + wrong, x.item(0, wrong, 0, 1), BAD);
            }
            for (int other = 0; other < 3; other++) {
                check.due("lane " + other + " of " + lane, x.item(0, other, 0, 1), other == lane ? 1 : CAST);
                check.due("CAST ahead of INDEX", x.item(0, other, 3, 1), other == lane ? INDEX : CAST);
            }
            check.due("the last item", x.item(0, lane, 2, 1), 1);
            check.due("one behind the last", x.item(0, lane, 3, 1), INDEX);
            check.due("far behind", x.item(0, lane, FAR_UP, 1), INDEX);
            for (int i : NO_NUMBER) {
                check.due("item " + i, x.item(0, lane, i, 1), INDEX);
            }
            x.sheet(0, lane, 0);
            check.due("of an empty row", x.item(0, lane, 0, 1), INDEX);
            x.sheet(0, lane, 16);
            check.due("the last of the longest", x.item(0, lane, 15, 1), 1);
            check.due("behind the longest", x.item(0, lane, 16, 1), INDEX);
        }
    }

    /** What times answers, if v is put for the tick of a child that is never through: 189 at 120, 0 at a tick, NOT else. */
    private static int asTick(int lane, int v) {
        TurnDoor x = Check.door("0sc");
        x.sheet(0, lane, 2);
        x.item(0, lane, 1, v);
        return x.times(0, lane, 0, 1, 0);
    }

    private static void lanes() {
        check.says("Item i of a SHEET, taken as a row of a LANE, becomes v, its lowest bits: 1.");
        int[][] bytes = {{120, 189}, {121, NOT}, {127, NOT}, {128, NOT}, {255, NOT}, {256, 0}, {256 + 120, 189}, {-1, NOT},
            {-136, 189}, {-256, 0}, {-129, NOT}, {65536 + 120, 189}, {FAR_DOWN, 0}, {FAR_UP, NOT}, {FAR_DOWN + 120, 189}};
        for (int[] b : bytes) {
            check.due("byte " + b[0], asTick(0, b[0]), b[1]);
        }
        int[][] shorts = {{120, 189}, {121, NOT}, {256, NOT}, {256 + 120, NOT}, {32767, NOT}, {32768, NOT}, {65535, NOT}, {65536, 0},
            {65536 + 120, 189}, {-65536, 0}, {-65536 + 120, 189}, {-65416, 189}, {-1, NOT}, {FAR_DOWN, 0}, {FAR_UP, NOT}};
        for (int[] b : shorts) {
            check.due("short " + b[0], asTick(1, b[0]), b[1]);
        }
        int[][] ints = {{120, 189}, {121, NOT}, {256 + 120, NOT}, {65536 + 120, NOT}, {-1, NOT}, {0, 0}, {FAR_DOWN, NOT}, {FAR_UP, NOT},
            {FAR_DOWN + 120, NOT}};
        for (int[] b : ints) {
            check.due("int " + b[0], asTick(2, b[0]), b[1]);
        }
        TurnDoor x = Check.door("0sc;0sc");
        x.sheet(0, 2, 16);
        x.sheet(1, 2, 16);
        x.item(0, 2, 15, 120);
        check.due("the last item is that one", x.times(0, 2, 14, 1, 0), 189);
        check.due("those ahead of it are not", x.times(0, 2, 12, 1, 0), 0);
        check.due("nor of another sheet", x.times(1, 2, 14, 1, 0), 0);
        x.item(0, 2, 0, 1);
        x.item(0, 2, 1, 120);
        check.due("the first item is a person", x.times(0, 2, 0, 1, 0), 189);
        x.item(0, 2, 0, 2);
        check.due("nobody", x.times(0, 2, 0, 1, 0), NOT);
    }

    /** A sheet of ten items, all 121, three of which are then filmed; steady by one step a tick, opening 3. */
    private static TurnDoor filmed(int lane, int from) {
        TurnDoor x = Check.door("0sw;113hw;0st", 1, 3, 5, 1);
        x.sheet(0, lane, 10);
        for (int i = 0; i < 10; i++) {
            x.item(0, lane, i, 121);
        }
        check.due("film(0, " + lane + ", " + from + ")", x.film(0, lane, from), 3);
        return x;
    }

    /** Others come, of whom 0 is through at v by any motor and drag: 189 if the item is v, 0 if it is another tick. */
    private static int asked(TurnDoor x, int lane, int i, int v) {
        x.clear();
        x.set(8, v == 120 ? 120 : 0);
        x.person(v == 120 ? 0 : v, 0, 3);
        x.item(0, lane, i - 1, 0);
        return x.times(0, lane, i - 1, 1, 0);
    }

    private static void films() {
        check.says("When all were THROUGH (120: not), by numbers, comes to a SHEET, from one on: how many");
        // in at turn 3, out at turn 9; in at turn 114, out at turn 120; no room for the third
        int[] ends = {8, 119, 120};
        for (int lane = 0; lane < 3; lane++) {
            for (int i = 1; i < 10; i++) {
                for (int from = 1; from <= 7; from += 3) {
                    boolean isOne = i >= from && i < from + 3;
                    check.due("item " + i + " of lane " + lane + " from " + from + " on",
                        asked(filmed(lane, from), lane, i, isOne ? ends[i - from] : 0), isOne ? 189 : NOT);
                }
            }
        }
        TurnDoor x = filmed(2, 0);
        check.due("from 0 on, the second item", asked(x, 2, 1, 119), 189);
        x = filmed(2, 0);
        x.clear();
        Check.come(x, "0sw;0sw;0sw;0sw;0sw;0sw;0sw;0sw;119sw");
        x.set(8, 0);
        check.due("from 0 on, the first item, as person 8", x.times(0, 2, 0, 1, 0), 189);
        refusedFilms();
    }

    private static void refusedFilms() {
        check.says("film: BAD; NULL; CAST; INDEX");
        TurnDoor x = Check.door("0sw;0sw;0sw;0sw;0sw;0sw;0hw;0hw;0hw;0hw;0hw;0hw");
        for (int sheet : NO_SHEET) {
            check.due("BAD ahead of all: sheet " + sheet, x.film(sheet, 0, -1), BAD);
        }
        for (int lane : NO_LANE) {
            check.due("BAD ahead of NULL: lane " + lane, x.film(0, lane, -1), BAD);
        }
        check.due("NULL ahead of INDEX", x.film(3, 0, -1), NULL);
        x.sheet(3, 1, 16);
        check.due("CAST ahead of INDEX", x.film(3, 0, -1), CAST);
        check.due("CAST", x.film(3, 2, 0), CAST);
        check.due("twelve, the first that may be", x.film(3, 1, 0), 12);
        check.due("twelve, the last that may be", x.film(3, 1, 4), 12);
        check.due("twelve, one too far", x.film(3, 1, 5), INDEX);
        check.due("at the end", x.film(3, 1, 16), INDEX);
        check.due("far above", x.film(3, 1, FAR_UP), INDEX);
        for (int from : NO_NUMBER) {
            check.due("from " + from, x.film(3, 1, from), INDEX);
        }
        x.sheet(3, 1, 12);
        check.due("a row of twelve", x.film(3, 1, 0), 12);
        check.due("a row of twelve, from 1 on", x.film(3, 1, 1), INDEX);
        x.sheet(3, 1, 11);
        check.due("a row of eleven", x.film(3, 1, 0), INDEX);
        x.sheet(3, 1, 0);
        check.due("a row of none", x.film(3, 1, 0), INDEX);
        x.clear();
        check.due("nobody, a row of none", x.film(3, 1, 0), 0);
    }

    private static void unfilmed() {
        check.says("What is refused changes nothing");
        TurnDoor x = Check.door("0sc;0sc;0sc");
        x.sheet(0, 2, 4);
        check.due("there is no room for all", x.film(0, 2, 2), INDEX);
        check.due("item 3 is 0 yet", x.times(0, 2, 2, 1, 0), 0);
        check.due("below the first", x.film(0, 2, -1), INDEX);
        check.due("item 1 is 0 yet", x.times(0, 2, 0, 1, 0), 0);
        check.due("just room", x.film(0, 2, 1), 3);
        check.due("item 1 is 120", x.times(0, 2, 0, 1, 0), 189);
    }

    public static void main(String[] args) {
        sheets();
        drops();
        items();
        lanes();
        films();
        unfilmed();
        check.end("SheetEdgesTest");
    }
}
