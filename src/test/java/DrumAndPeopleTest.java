/** Promises 1 to 10: the drum, people. */
public final class DrumAndPeopleTest {
    private static final Check check = new Check();
    private static final int[] FIRST = {4, 2, 2, 2, 2, 2, 1, 3, 120};
    private static final int[] LOW = {3, 1, 1, 0, 1, 1, 0, 1, 0};
    private static final int[] HIGH = {4, 3, 6, 20, 9, 3, 9, 9, 120};

    private static void newObject() {
        TurnDoor x = new TurnDoor();
        check.due("1 new count(0)", x.count(0), 0);
        check.due("1 new count(1)", x.count(1), 0);
        check.due("1 new all(0)", x.all(0), 0);
        check.due("1 new all(1)", x.all(1), 0);
        check.due("1 new all(2)", x.all(2), 0);
        check.due("1 new told(0, 0)", x.told(0, 0), TurnDoor.BAD);
        check.due("1 new people()", x.people(), -20);
        check.due("1 new type", x.type(' ', 1), 1);
        check.due("1 new restore()", x.restore(), TurnDoor.NONE);
        check.due("1 new clear()", x.clear(), 0);
        for (int s = 0; s < 4; s++) {
            check.due("1 new drop(" + s + ")", x.drop(s), TurnDoor.NULL);
        }
        for (int t = 0; t < 120; t++) {
            check.due("1 new at(" + t + ", 2)", x.at(t, 2), 0);
            check.due("1 new at(" + t + ", 3)", x.at(t, 3), 0);
        }
    }

    private static void settings() {
        TurnDoor x = new TurnDoor();
        for (int i = 0; i < 9; i++) {
            check.due("2 below " + i, x.set(i, LOW[i] - 1), TurnDoor.BAD);
            check.due("2 above " + i, x.set(i, HIGH[i] + 1), TurnDoor.BAD);
            check.due("2 far below " + i, x.set(i, Integer.MIN_VALUE), TurnDoor.BAD);
            check.due("2 far above " + i, x.set(i, Integer.MAX_VALUE), TurnDoor.BAD);
            check.due("2 first of " + i, x.set(i, LOW[i]), FIRST[i]);
            check.due("2 least of " + i, x.set(i, HIGH[i]), LOW[i]);
            check.due("2 most of " + i, x.set(i, FIRST[i]), HIGH[i]);
        }
        int[] none = {-1, 9, 10, Integer.MIN_VALUE, Integer.MAX_VALUE};
        for (int what : none) {
            check.due("2 no setting " + what, x.set(what, 2), TurnDoor.BAD);
        }
        for (int i = 0; i < 9; i++) {
            check.due("2 as it was " + i, x.set(i, FIRST[i]), FIRST[i]);
        }
    }

    private static void shares() {
        TurnDoor x = new TurnDoor();
        int[] four = {3, 2, 1, 0, 0, 0, 0, 0, 0, 0, 1, 2};
        int[] three = {3, 2, 1, 0, 0, 0, 0, 0, 0, 1, 2, 3};
        for (int t = 0; t < 12; t++) {
            for (int p = 0; p < 4; p++) {
                check.due("3 share(" + p + ", 0, " + t + ")", x.share(p, 0, t), four[(t + 3 * p) % 12]);
                check.due("3 share(" + p + ", 1, " + t + ")", x.share(p, 1, t), four[(t + 3 * p + 6) % 12]);
            }
        }
        x.set(0, 3);
        for (int t = 0; t < 12; t++) {
            for (int p = 0; p < 3; p++) {
                check.due("3 of three share(" + p + ", 0, " + t + ")", x.share(p, 0, t), three[(t + 4 * p) % 12]);
                check.due("3 of three share(" + p + ", 1, " + t + ")", x.share(p, 1, t), three[(t + 4 * p + 6) % 12]);
            }
        }
        check.due("3 part 3 of three", x.share(3, 0, 0), TurnDoor.BAD);
        x.set(0, 4);
        check.due("3 part 3 of four", x.share(3, 0, 2), 2);
        int[][] wrong = {{-1, 0, 0}, {4, 0, 0}, {0, -1, 0}, {0, 2, 0}, {0, 0, -1}, {0, 0, 12},
            {Integer.MAX_VALUE, 0, 0}, {0, 0, Integer.MIN_VALUE}, {0, 0, Integer.MAX_VALUE}};
        for (int[] w : wrong) {
            check.due("3 wrong", x.share(w[0], w[1], w[2]), TurnDoor.BAD);
        }
    }

    private static void opened() {
        TurnDoor x = new TurnDoor();
        check.due("4 open(0, 0)", x.open(0, 0), 1);
        check.due("4 open(1, 0)", x.open(1, 0), 4);
        check.due("4 open(0, 2)", x.open(0, 2), 8);
        x.set(1, 1);
        check.due("4 opening 1 open(0, 0)", x.open(0, 0), 1);
        check.due("4 opening 1 open(0, 1)", x.open(0, 1), 9);
        check.due("4 opening 1 open(1, 2)", x.open(1, 2), 6);
        x.set(1, 3);
        check.due("4 opening 3 open(0, 0)", x.open(0, 0), 1);
        check.due("4 opening 3 open(0, 1)", x.open(0, 1), 0);
        check.due("4 opening 3 open(1, 3)", x.open(1, 3), 2);
        x.set(0, 3);
        check.due("4 three leaves open(0, 11)", x.open(0, 11), 1);
        check.due("4 three leaves open(0, 10)", x.open(0, 10), 0);
        check.due("4 three leaves open(1, 1)", x.open(1, 1), 2);
        x.set(1, 1);
        check.due("4 three leaves, opening 1 open(0, 1)", x.open(0, 1), 5);
        int[][] wrong = {{-1, 0}, {2, 0}, {0, -1}, {0, 12}, {Integer.MIN_VALUE, 0}, {1, Integer.MAX_VALUE}};
        for (int[] w : wrong) {
            check.due("4 wrong", x.open(w[0], w[1]), TurnDoor.BAD);
        }
    }

    private static void persons() {
        TurnDoor x = new TurnDoor();
        int[][] wrong = {{-1, 0, 0}, {120, 0, 0}, {0, -1, 0}, {0, 2, 0}, {0, 0, -1}, {0, 0, 6},
            {Integer.MAX_VALUE, 0, 0}, {0, Integer.MIN_VALUE, 0}, {0, 0, Integer.MAX_VALUE}};
        for (int[] w : wrong) {
            check.due("5 wrong", x.person(w[0], w[1], w[2]), TurnDoor.BAD);
        }
        check.due("5 nobody came", x.count(0), 0);
        check.due("5 the first", x.person(119, 1, 5), 0);
        for (int i = 1; i < 12; i++) {
            check.due("5 number " + i, x.person(0, 0, i % 6), i);
        }
        check.due("5 the thirteenth", x.person(0, 0, 0), TurnDoor.FULL);
        for (int[] w : wrong) {
            check.due("5 wrong ahead of full", x.person(w[0], w[1], w[2]), TurnDoor.BAD);
        }
        check.due("5 twelve", x.count(0), 12);
    }

    private static void tellings() {
        TurnDoor x = new TurnDoor();
        int[] sizes = {1, 2, 3, 1, 1, 1};
        int[] pushes = {2, 1, 1, 0, 4, 2};
        for (int k = 0; k < 6; k++) {
            x.person(10 * k, k % 2, k);
        }
        for (int k = 0; k < 6; k++) {
            check.due("6 tick", x.told(k, 0), 10 * k);
            check.due("6 side", x.told(k, 1), k % 2);
            check.due("6 kind", x.told(k, 2), k);
            check.due("6 size", x.told(k, 3), sizes[k]);
            check.due("6 push", x.told(k, 4), pushes[k]);
            check.due("6 what 5", x.told(k, 5), TurnDoor.BAD);
            check.due("6 what -1", x.told(k, -1), TurnDoor.BAD);
        }
        check.due("6 nobody", x.told(6, 0), TurnDoor.BAD);
        check.due("6 nobody", x.told(-1, 0), TurnDoor.BAD);
        check.due("6 nobody", x.told(Integer.MAX_VALUE, 0), TurnDoor.BAD);
    }

    private static void delays() {
        TurnDoor x = Check.withPeople("0sw;5hb");
        check.due("7 through", x.fate(0, 1), 2);
        check.due("7 delay", x.delay(0, 119), 0);
        check.due("7 told", x.told(0, 0), 119);
        check.due("7 the other", x.told(1, 0), 5);
        check.due("7 not through any more", x.fate(0, 1), TurnDoor.NONE);
        check.due("7 back", x.delay(0, 0), 119);
        check.due("7 through again", x.fate(0, 1), 2);
        int[][] wrong = {{2, 0}, {-1, 0}, {0, -1}, {0, 120}, {Integer.MIN_VALUE, 0}, {0, Integer.MAX_VALUE}};
        for (int[] w : wrong) {
            check.due("7 wrong", x.delay(w[0], w[1]), TurnDoor.BAD);
        }
        check.due("7 told behind wrong ones", x.told(0, 0), 0);
    }

    private static void clearing() {
        TurnDoor x = Check.withPeople("0sw;5hb;7sc");
        x.set(2, 5);
        Check.typed(x, "1sw");
        check.due("8 clear()", x.clear(), 3);
        check.due("8 nobody", x.count(0), 0);
        check.due("8 nobody waits", x.at(7, 3), 0);
        check.due("8 clear() again", x.clear(), 0);
        check.due("8 settings stay", x.set(2, 5), 5);
        check.due("8 the tape stays", x.people(), 1);
        check.due("8 from 0 on", x.told(0, 0), 1);
    }

    private static void typing() {
        TurnDoor x = new TurnDoor();
        check.due("9 n 0", x.type('a', 0), TurnDoor.BAD);
        check.due("9 n 9", x.type('a', 9), TurnDoor.BAD);
        check.due("9 n", x.type('a', Integer.MIN_VALUE), TurnDoor.BAD);
        int[] bad = {0, 31, 127, 128, 255};
        for (int b : bad) {
            check.due("9 byte " + b, x.type(b, 1), TurnDoor.BAD);
            check.due("9 byte " + b + " ahead", x.type((long) b << 8 | 'a', 2), TurnDoor.BAD);
            check.due("9 byte " + b + " the highest", x.type((long) b << 56 | 0x20202020202020L, 8), TurnDoor.BAD);
        }
        check.due("9 byte 32", x.type(32, 1), 1);
        check.due("9 byte 126", x.type(126, 1), 2);
        x.people();
        check.due("9 others are not looked at", x.type(-1L << 24 | '4' << 16 | 's' << 8 | 'w', 3), 3);
        check.due("9 the highest first", x.people(), 1);
        check.due("9 the highest first", x.told(0, 0), 4);
        for (int i = 1; i <= 9; i++) {
            check.due("9 length", x.type(0x2020202020202020L, 8), 8 * i);
        }
        check.due("9 length", x.type(0x20202020202020L, 7), 79);
        check.due("9 full", x.type(0x2020, 2), TurnDoor.FULL);
        check.due("9 bad ahead of full", x.type(0x2001, 2), TurnDoor.BAD);
        check.due("9 the last", x.type(0x20, 1), 80);
        check.due("9 full", x.type(0x20, 1), TurnDoor.FULL);
        check.due("9 the end of blanks", x.people(), -100);
    }

    private static void read(String text, int want) {
        TurnDoor x = new TurnDoor();
        Check.typed(x, text);
        check.due("10 '" + text + "'", x.people(), want);
        check.due("10 '" + text + "' who came", x.count(0), Math.max(0, want));
        check.due("10 the tape is empty behind '" + text + "'", x.type(' ', 1), 1);
    }

    private static void reading() {
        read("", -20);
        read("   ", -23);
        read("0sw", 1);
        read("119hd", 1);
        read("0119hd", 1);
        read("120sw", -20);
        read("0sw; 120", -25);
        read("99999999999sw", -20);
        read("4294967296sw", -20);
        read("x", -20);
        read(" -1sw", -21);
        read("1", -21);
        read("1 ", -22);
        read("1w", -21);
        read("1S", -21);
        read("1s", -22);
        read("1s  ", -24);
        read("1ss", -22);
        read("1hh", 1);
        read("1s1", -22);
        read("1sw;", -24);
        read("1sw; ", -25);
        read("1sw;;", -24);
        read("1sw,2sw", -23);
        read("1sw2sw", -23);
        read(" 1 s w ; 2 h c ", 2);
        read("1 2sw", -22);
        read("1sw;2sw;3sw;4sw;5sw;6sw;7sw;8sw", 8);
        read("1sw;2sw;3sw;4sw;5sw;6sw;7sw;8sw;", -51);
        read("1sw;2sw;3sw;4sw;5sw;6sw;7sw;8sw 9", -52);
        readKinds();
        readFull();
    }

    private static void readKinds() {
        TurnDoor x = Check.withPeople("10sw;11hb;12st;13hc;14sh;15hd");
        for (int p = 0; p < 6; p++) {
            check.due("10 tick of " + p, x.told(p, 0), 10 + p);
            check.due("10 side of " + p, x.told(p, 1), p % 2);
            check.due("10 kind of " + p, x.told(p, 2), p);
        }
        check.due("10 who waits behind tick 119", x.at(119, 3), 1 << 2 | 1 << 3 | 1 << 5);
        Check.typed(x, "7hc;8sw");
        check.due("10 people come, too", x.people(), 2);
        check.due("10 who waits now behind tick 7", x.at(7, 3), 1 << 6);
        check.due("10 in all", x.count(0), 8);
        check.due("10 the last", x.told(7, 0), 8);
    }

    private static void readFull() {
        TurnDoor x = Check.withPeople("1sw;2sw;3sw;4sw;5sw;6sw;7sw;8sw");
        Check.typed(x, "1sw;2sw;3sw;4sw;5sw");
        check.due("10 full", x.people(), TurnDoor.FULL);
        check.due("10 none came", x.count(0), 8);
        check.due("10 the tape is empty behind full", x.type(' ', 1), 1);
        Check.typed(x, "1sw;2sw;3sw;4sw;5");
        check.due("10 a fault ahead of full", x.people(), -38);
        Check.typed(x, "1sw;2sw;3sw;4sw");
        check.due("10 just so many", x.people(), 4);
        Check.typed(x, "1sw");
        check.due("10 full", x.people(), TurnDoor.FULL);
    }

    public static void main(String[] args) {
        newObject();
        settings();
        shares();
        opened();
        persons();
        tellings();
        delays();
        clearing();
        typing();
        reading();
        check.end("DrumAndPeopleTest");
    }
}
