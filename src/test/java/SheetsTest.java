/** Promises 24 to 27: sheets. What an item holds is read by times, which refuses what can be no person or tick. */
public final class SheetsTest {
    private static final Check check = new Check();
    private static final int[] FAR = {-1, Integer.MIN_VALUE, Integer.MAX_VALUE};

    private static void newSheets() {
        TurnDoor x = Check.withPeople("0sw");
        for (int lane = 0; lane < 3; lane++) {
            check.due("24 sheet(0, " + lane + ", 0)", x.sheet(0, lane, 0), 0);
            check.due("24 sheet(3, " + lane + ", 16)", x.sheet(3, lane, 16), 16);
            check.due("24 its lane", x.item(3, lane, 15, 7), 1);
            check.due("24 another lane", x.item(3, (lane + 1) % 3, 15, 7), TurnDoor.CAST);
        }
        check.due("24 an empty row is a row", x.drop(0), 0);
        x.sheet(3, 2, 16);
        check.due("24 all items are 0", x.times(3, 2, 0, 8, 0), 0);
        for (int i = 0; i < 16; i++) {
            x.item(3, 2, i, 121);
        }
        check.due("24 nobody", x.times(3, 2, 0, 1, 0), TurnDoor.NOT);
        x.sheet(3, 2, 16);
        check.due("24 a new row is of 0, too", x.times(3, 2, 0, 8, 0), 0);
        check.due("24 n 17", x.sheet(3, 0, 17), TurnDoor.BAD);
        check.due("24 n far above", x.sheet(3, 0, Integer.MAX_VALUE), TurnDoor.BAD);
        check.due("24 n -1", x.sheet(3, 0, -1), TurnDoor.SIZE);
        check.due("24 n far below", x.sheet(3, 0, Integer.MIN_VALUE), TurnDoor.SIZE);
        check.due("24 refused, as it was", x.item(3, 2, 15, 7), 1);
        check.due("24 sheet 4", x.sheet(4, 0, 1), TurnDoor.BAD);
        check.due("24 lane 3", x.sheet(0, 3, 1), TurnDoor.BAD);
        for (int w : FAR) {
            check.due("24 sheet", x.sheet(w, 0, -1), TurnDoor.BAD);
            check.due("24 lane ahead of size", x.sheet(0, w, -1), TurnDoor.BAD);
        }
        check.due("24 a shorter one", x.sheet(3, 2, 2), 2);
        check.due("24 its length", x.item(3, 2, 2, 0), TurnDoor.INDEX);
    }

    private static void drops() {
        TurnDoor x = new TurnDoor();
        check.due("25 nothing at first", x.drop(2), TurnDoor.NULL);
        x.sheet(2, 1, 9);
        x.sheet(1, 1, 4);
        check.due("25 drop(2)", x.drop(2), 9);
        check.due("25 drop(2) again", x.drop(2), TurnDoor.NULL);
        check.due("25 item of nothing", x.item(2, 1, 0, 0), TurnDoor.NULL);
        check.due("25 the other one", x.drop(1), 4);
        check.due("25 sheet 4", x.drop(4), TurnDoor.BAD);
        for (int w : FAR) {
            check.due("25 sheet", x.drop(w), TurnDoor.BAD);
        }
    }

    /** Whether an item, put to v, is then taken for tick 2 at which the one person is through. */
    private static int asTick(int lane, int v) {
        TurnDoor x = Check.withPeople("0sw");
        x.sheet(0, lane, 2);
        x.item(0, lane, 1, v);
        return x.times(0, lane, 0, 1, 0);
    }

    private static void items() {
        TurnDoor x = new TurnDoor();
        x.sheet(0, 0, 3);
        check.due("26 first", x.item(0, 0, 0, 5), 1);
        check.due("26 last", x.item(0, 0, 2, Integer.MIN_VALUE), 1);
        check.due("26 index", x.item(0, 0, 3, 5), TurnDoor.INDEX);
        check.due("26 cast ahead of index", x.item(0, 1, 3, 5), TurnDoor.CAST);
        check.due("26 null ahead of index", x.item(1, 1, -1, 5), TurnDoor.NULL);
        check.due("26 sheet 4", x.item(4, 0, 0, 5), TurnDoor.BAD);
        check.due("26 lane 3", x.item(0, 3, 0, 5), TurnDoor.BAD);
        check.due("26 lane ahead of null", x.item(1, 3, 0, 5), TurnDoor.BAD);
        for (int w : FAR) {
            check.due("26 sheet", x.item(w, 0, 0, 5), TurnDoor.BAD);
            check.due("26 lane", x.item(0, w, 0, 5), TurnDoor.BAD);
            check.due("26 index", x.item(0, 0, w, 5), TurnDoor.INDEX);
        }
        x.sheet(0, 0, 0);
        check.due("26 of no items", x.item(0, 0, 0, 5), TurnDoor.INDEX);
        int due = asTick(2, 2);
        check.holds("26 some motor and drag bring it through at 2", due > 0);
        check.due("26 bytes", asTick(0, 2), due);
        check.due("26 bytes, lowest bits", asTick(0, 256 + 2), due);
        check.due("26 bytes, lowest bits", asTick(0, -256 + 2), due);
        check.due("26 bytes are below 0 from 128 on", asTick(0, 128), TurnDoor.NOT);
        // never through: motor and its own push together are below drag, 7 + 6 + .. + 1 pairs
        check.due("26 bytes", asTick(0, 120), 28);
        check.due("26 shorts", asTick(1, 2), due);
        check.due("26 shorts, lowest bits", asTick(1, 65536 + 2), due);
        check.due("26 shorts hold more than bytes", asTick(1, 256 + 2), TurnDoor.NOT);
        check.due("26 ints hold more than shorts", asTick(2, 65536 + 2), TurnDoor.NOT);
    }

    private static void films() {
        TurnDoor x = Check.withPeople("0sw;0st;5hw");
        // 0 is through at 2, 1 has no room and never is, 2 goes at its own time
        for (int lane = 0; lane < 3; lane++) {
            x.sheet(0, lane, 6);
            check.due("27 film", x.film(0, lane, 3), 3);
            x.item(0, lane, 2, 0);
            check.holds("27 when 0 was through", x.times(0, lane, 2, 1, 0) > 0);
            check.due("27 when 0 was through", x.fate(0, 1), 2);
            x.item(0, lane, 3, 1);
            check.due("27 when 1 was not", x.times(0, lane, 3, 1, 0), 189);
            x.item(0, lane, 4, 2);
            check.holds("27 when 2 was through", x.times(0, lane, 4, 1, 0) > 0);
            x.item(0, lane, 5, 3);
            check.due("27 at 3 it was not", x.times(0, lane, 4, 1, 0), 0);
        }
        check.due("27 just room", x.film(0, 2, 0), 3);
        check.due("27 one too far", x.film(0, 2, 4), TurnDoor.INDEX);
        check.due("27 behind the end", x.film(0, 2, 7), TurnDoor.INDEX);
        x.item(0, 2, 4, 121);
        x.item(0, 2, 5, 121);
        check.due("27 refused", x.film(0, 2, 4), TurnDoor.INDEX);
        check.due("27 what is refused changes nothing", x.times(0, 2, 4, 1, 0), TurnDoor.NOT);
        check.due("27 cast", x.film(0, 1, 0), TurnDoor.CAST);
        check.due("27 cast ahead of index", x.film(0, 1, 9), TurnDoor.CAST);
        check.due("27 null", x.film(1, 1, 9), TurnDoor.NULL);
        check.due("27 sheet 4", x.film(4, 1, 0), TurnDoor.BAD);
        check.due("27 lane 3", x.film(1, 3, 0), TurnDoor.BAD);
        for (int w : FAR) {
            check.due("27 sheet", x.film(w, 0, 0), TurnDoor.BAD);
            check.due("27 lane", x.film(0, w, 0), TurnDoor.BAD);
            check.due("27 from", x.film(0, 2, w), TurnDoor.INDEX);
        }
        x.clear();
        check.due("27 nobody", x.film(0, 2, 0), 0);
        check.due("27 nobody, from the end on", x.film(0, 2, 6), 0);
    }

    public static void main(String[] args) {
        newSheets();
        drops();
        items();
        films();
        check.end("SheetsTest");
    }
}
