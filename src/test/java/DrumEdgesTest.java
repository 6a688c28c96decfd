/** Terms 1 and promises 1 to 10, sentence by sentence: the last that is taken, the first that is refused, the turn past 11. */
public final class DrumEdgesTest {
    private static final Check check = new Check();
    private static final int FAR_DOWN = Integer.MIN_VALUE, FAR_UP = Integer.MAX_VALUE;
    private static final int[] FIRST = {4, 2, 2, 2, 2, 2, 1, 3, 120};
    private static final int[] LOW = {3, 1, 1, 0, 1, 1, 0, 1, 0};
    private static final int[] HIGH = {4, 3, 6, 20, 9, 3, 9, 9, 120};
    private static final String EIGHT = "1sw;2sw;3sw;4sw;5sw;6sw;7sw;8sw";

    private static boolean isOfMouth(int sector, int side) {
        return side == 0 ? sector == 0 || sector == 1 || sector == 2 : sector == 6 || sector == 7 || sector == 8;
    }

    private static int shareOf(int leaves, int part, int side, int turn) {
        int n = 0;
        for (int k = 0; k < 12 / leaves; k++) {
            n += isOfMouth((turn + part * (12 / leaves) + k) % 12, side) ? 1 : 0;
        }
        return n;
    }

    private static void calls512() {
        check.says("An object is used for at most 512 calls after it has been made");
        TurnDoor x = new TurnDoor();
        check.due("call 1", x.person(0, 0, 0), 0);
        for (int i = 2; i <= 510; i += 3) {
            check.due("call " + i, x.set(3, 0), 2);
            check.due("call " + (i + 1), x.set(3, 2), 0);
            check.due("call " + (i + 2), x.fate(0, 1), 2);
        }
        check.due("call 512", x.without(0), 1);
    }

    private static void sectors() {
        check.says("The SHARE of a PART at a mouth: how many of its SECTORS are of that");
        for (int leaves = 3; leaves <= 4; leaves++) {
            TurnDoor x = Check.door("", 0, leaves);
            for (int part = 0; part < leaves; part++) {
                for (int turn = 0; turn < 12; turn++) {
                    for (int side = 0; side < 2; side++) {
                        check.due(leaves + " leaves share(" + part + ", " + side + ", " + turn + ")",
                            x.share(part, side, turn), shareOf(leaves, part, side, turn));
                    }
                }
            }
        }
        check.says("at TURN s PART i has those from s and i times 12 by W on (as remainders by 12)");
        TurnDoor x = new TurnDoor();
        check.due("sectors 9, 10, 11", x.share(0, 0, 9), 0);
        check.due("sectors 10, 11, 0", x.share(0, 0, 10), 1);
        check.due("sectors 11, 0, 1", x.share(0, 0, 11), 2);
        check.due("sectors 8, 9, 10, the last part at the last turn", x.share(3, 1, 11), 1);
        check.due("sectors 8, 9, 10 are none of the street", x.share(3, 0, 11), 0);
        x.set(0, 3);
        check.due("sectors 8 to 11", x.share(0, 0, 8), 0);
        check.due("sectors 8 to 11 at the hall", x.share(0, 1, 8), 1);
        check.due("sectors 9 to 0", x.share(0, 0, 9), 1);
        check.due("sectors 11 to 2: not more than the mouth has", x.share(0, 0, 11), 3);
        check.due("sectors 7 to 10, the last part at the last turn", x.share(2, 1, 11), 2);
    }

    private static void steps() {
        check.says("A STEP makes s one more (behind 11: 0)");
        TurnDoor x = Check.door("", 5, 1);
        check.due("at(10, 0)", x.at(10, 0), 11);
        check.due("at(11, 0)", x.at(11, 0), 0);
        check.due("at(12, 0)", x.at(12, 0), 1);
        check.due("at(23, 0)", x.at(23, 0), 0);
        x = Check.door("", 3, 4);
        check.due("by two, at(5, 0)", x.at(5, 0), 11);
        check.due("by two past 11, at(6, 0)", x.at(6, 0), 1);
        x = Check.door("", 3, 6, 5, 3);
        check.due("by three, at(3, 0)", x.at(3, 0), 9);
        check.due("by three to 0, at(4, 0)", x.at(4, 0), 0);
        x = Check.door("7sh", 5, 3);
        check.due("by two, at(8, 0)", x.at(8, 0), 10);
        check.due("by three past 11, at(9, 0)", x.at(9, 0), 1);
        x = Check.door("8sh", 5, 3);
        check.due("by two, at(9, 0)", x.at(9, 0), 11);
        check.due("by three past 11, at(10, 0)", x.at(10, 0), 2);
    }

    private static void openings() {
        check.says("it is OPEN there, if that is OPENING or more");
        for (int leaves = 3; leaves <= 4; leaves++) {
            for (int opening = 1; opening <= 3; opening++) {
                TurnDoor x = Check.door("", 0, leaves, 1, opening);
                for (int i = 0; i < 24; i++) {
                    int set = 0;
                    for (int part = 0; part < leaves; part++) {
                        set |= shareOf(leaves, part, i / 12, i % 12) >= opening ? 1 << part : 0;
                    }
                    check.due(leaves + " leaves, opening " + opening + ": open(" + i / 12 + ", " + i % 12 + ")",
                        x.open(i / 12, i % 12), set);
                }
            }
        }
        TurnDoor x = Check.door("", 1, 1);
        check.due("share 1 and opening 1", x.open(0, 2), 1 | 8);
        check.due("share 1 and opening 1 past sector 11", x.open(0, 10), 1 | 2);
        x.set(1, 2);
        check.due("share 1 and opening 2", x.open(0, 2), 8);
        check.due("share 2 and opening 2", x.open(0, 1), 1);
        x.set(1, 3);
        check.due("share 2 and opening 3", x.open(0, 1), 0);
        check.due("share 3 and opening 3", x.open(0, 0), 1);
        check.says("open: BAD");
        int[][] bad = {{-1, 0}, {2, 0}, {0, -1}, {1, 12}, {FAR_DOWN, 0}, {FAR_UP, 0}, {0, FAR_DOWN}, {0, FAR_UP}, {-1, 12}};
        for (int[] b : bad) {
            check.due("open(" + b[0] + ", " + b[1] + ")", x.open(b[0], b[1]), TurnDoor.BAD);
        }
        check.due("the last side, the last turn", x.open(1, 11), 0);
    }

    private static void sharesRefused() {
        check.says("SHARE of a PART (0 .. 3) at a side, at a TURN. BAD: also a PART that is not there");
        TurnDoor x = new TurnDoor();
        int[][] bad = {{-1, 0, 0}, {4, 0, 0}, {FAR_DOWN, 0, 0}, {FAR_UP, 0, 0}, {0, -1, 0}, {0, 2, 0}, {0, FAR_DOWN, 0},
            {0, FAR_UP, 0}, {0, 0, -1}, {0, 0, 12}, {0, 0, FAR_DOWN}, {0, 0, FAR_UP}};
        for (int[] b : bad) {
            check.due("share(" + b[0] + ", " + b[1] + ", " + b[2] + ")", x.share(b[0], b[1], b[2]), TurnDoor.BAD);
        }
        check.due("the last part of four", x.share(3, 0, 3), 3);
        x.set(0, 3);
        check.due("part 3 of three", x.share(3, 0, 3), TurnDoor.BAD);
        check.due("the last part of three", x.share(2, 0, 3), 3);
        x.set(0, 4);
        check.due("part 3 of four again", x.share(3, 0, 3), 3);
    }

    private static void settings() {
        check.says("SETTINGS: 0 LEAVES (3, 4; 4 at first), 1 OPENING (1 .. 3; 2) ..");
        for (int i = 0; i < 9; i++) {
            TurnDoor x = new TurnDoor();
            check.due("first below " + i, x.set(i, LOW[i] - 1), TurnDoor.BAD);
            check.due("first above " + i, x.set(i, HIGH[i] + 1), TurnDoor.BAD);
            check.due("far below " + i, x.set(i, FAR_DOWN), TurnDoor.BAD);
            check.due("far above " + i, x.set(i, FAR_UP), TurnDoor.BAD);
            check.due(i + " at first", x.set(i, LOW[i]), FIRST[i]);
            check.due("the least of " + i, x.set(i, LOW[i]), LOW[i]);
            check.due("below the least of " + i, x.set(i, LOW[i] - 1), TurnDoor.BAD);
            check.due("the least of " + i + " again", x.set(i, HIGH[i]), LOW[i]);
            check.due("above the greatest of " + i, x.set(i, HIGH[i] + 1), TurnDoor.BAD);
            check.due("the greatest of " + i, x.set(i, FIRST[i]), HIGH[i]);
        }
        check.says("set: A SETTING: what it was. BAD");
        TurnDoor x = new TurnDoor();
        int[] none = {-1, 9, FAR_DOWN, FAR_UP};
        for (int what : none) {
            for (int v = 0; v <= 4; v++) {
                check.due("set(" + what + ", " + v + ")", x.set(what, v), TurnDoor.BAD);
            }
        }
        for (int i = 0; i < 9; i++) {
            check.due("none has changed: set(" + i + ", first)", x.set(i, FIRST[i]), FIRST[i]);
        }
    }

    private static void newObject() {
        check.says("TurnDoor(): Nobody comes.");
        TurnDoor x = new TurnDoor();
        check.due("count(0)", x.count(0), 0);
        check.due("count(1)", x.count(1), 0);
        for (int tick = 0; tick < 120; tick++) {
            check.due("at(" + tick + ", 2)", x.at(tick, 2), 0);
            check.due("at(" + tick + ", 3)", x.at(tick, 3), 0);
        }
        check.due("told(0, 0)", x.told(0, 0), TurnDoor.BAD);
        check.due("delay(0, 0)", x.delay(0, 0), TurnDoor.BAD);
        check.due("fate(0, 0)", x.fate(0, 0), TurnDoor.BAD);
        check.due("without(0)", x.without(0), -100001);
        check.due("all(0)", x.all(0), 0);
        check.due("all(1): all are through", x.all(1), 0);
        check.due("clear()", x.clear(), 0);
        check.due("the tape is empty: people()", x.people(), -20);
        check.due("no image: restore()", x.restore(), TurnDoor.NONE);
        for (int sheet = 0; sheet < 4; sheet++) {
            check.due("sheets are nothing (at first): drop(" + sheet + ")", x.drop(sheet), TurnDoor.NULL);
        }
    }

    private static void persons() {
        check.says("One of PEOPLE: the number. BAD; FULL: 12.");
        TurnDoor x = new TurnDoor();
        int[][] bad = {{-1, 0, 0}, {120, 0, 0}, {FAR_DOWN, 0, 0}, {FAR_UP, 0, 0}, {0, -1, 0}, {0, 2, 0}, {0, FAR_DOWN, 0},
            {0, FAR_UP, 0}, {0, 0, -1}, {0, 0, 6}, {0, 0, FAR_DOWN}, {0, 0, FAR_UP}};
        for (int[] b : bad) {
            check.due("person(" + b[0] + ", " + b[1] + ", " + b[2] + ")", x.person(b[0], b[1], b[2]), TurnDoor.BAD);
        }
        check.due("none of these came", x.count(0), 0);
        check.due("the first tick, side, kind", x.person(0, 0, 0), 0);
        check.due("the last tick, side, kind", x.person(119, 1, 5), 1);
        for (int i = 2; i < 12; i++) {
            check.due("number " + i, x.person(i, 0, 0), i);
        }
        check.due("the thirteenth", x.person(0, 0, 0), TurnDoor.FULL);
        for (int[] b : bad) {
            check.due("BAD ahead of FULL", x.person(b[0], b[1], b[2]), TurnDoor.BAD);
        }
        check.due("twelve are there", x.count(0), 12);
        check.due("the twelfth is as told", x.told(11, 0), 11);
        x.clear();
        check.due("numbers begin anew", x.person(5, 1, 3), 0);
    }

    private static void tellings() {
        check.says("KINDS: 0 WALKING (size 1, push 2); below it 1 BAGGED (size 2, push 1) ..");
        int[][] want = {{1, 2}, {2, 1}, {3, 1}, {1, 0}, {1, 4}, {1, 2}};
        TurnDoor x = Check.door("0sw;1hb;118st;119hc;60sh;61hd;0sw;0sw;0sw;0sw;0sw;119hd");
        for (int kind = 0; kind < 6; kind++) {
            check.due("size of kind " + kind, x.told(kind, 3), want[kind][0]);
            check.due("push of kind " + kind, x.told(kind, 4), want[kind][1]);
        }
        check.says("told: 0 TICK, 1 side, 2 KIND, 3 size, 4 push. BAD.");
        check.due("the first tick", x.told(0, 0), 0);
        check.due("the last tick of the last one", x.told(11, 0), 119);
        check.due("the first side", x.told(0, 1), 0);
        check.due("the last side of the last one", x.told(11, 1), 1);
        check.due("the first kind", x.told(0, 2), 0);
        check.due("the last kind of the last one", x.told(11, 2), 5);
        int[][] bad = {{0, -1}, {0, 5}, {0, FAR_DOWN}, {0, FAR_UP}, {-1, 0}, {12, 0}, {FAR_DOWN, 0}, {FAR_UP, 0}};
        for (int[] b : bad) {
            check.due("told(" + b[0] + ", " + b[1] + ")", x.told(b[0], b[1]), TurnDoor.BAD);
        }
        x.clear();
        x.person(7, 1, 1);
        check.due("the one that is there", x.told(0, 0), 7);
        check.due("one that has gone", x.told(1, 0), TurnDoor.BAD);
    }

    private static void delays() {
        check.says("One of PEOPLE comes at another TICK: at which it did. BAD.");
        TurnDoor x = Check.door("5sw;6hw");
        check.due("to the first tick", x.delay(1, 0), 6);
        check.due("to the last tick", x.delay(1, 119), 0);
        check.due("to the same tick", x.delay(1, 119), 119);
        int[][] bad = {{1, -1}, {1, 120}, {1, FAR_DOWN}, {1, FAR_UP}, {-1, 0}, {2, 0}, {FAR_DOWN, 0}, {FAR_UP, 0}};
        for (int[] b : bad) {
            check.due("delay(" + b[0] + ", " + b[1] + ")", x.delay(b[0], b[1]), TurnDoor.BAD);
        }
        check.due("as it was ahead of those", x.told(1, 0), 119);
        check.due("the other one, too", x.told(0, 0), 5);
        check.due("its number stays, though it comes later", x.told(1, 1), 1);
    }

    private static void clearing() {
        check.says("All PEOPLE go: how many.");
        TurnDoor x = new TurnDoor();
        check.due("nobody", x.clear(), 0);
        Check.come(x, "0sw");
        check.due("one", x.clear(), 1);
        Check.come(x, "0sw;0sw;0sw;0sw;0sw;0sw;0hw;0hw;0hw;0hw;0hw;0hw");
        check.due("twelve", x.clear(), 12);
        check.due("nobody any more", x.clear(), 0);
        check.due("count(0)", x.count(0), 0);
        check.due("at(0, 2)", x.at(0, 2), 0);
        check.due("at(0, 3)", x.at(0, 3), 0);
        check.due("twelve have room again", x.person(0, 0, 0), 0);
    }

    private static void typing() {
        check.says("The n lowest bytes (1 .. 8) of w, of these the highest first, come behind THE TAPE: how many it has");
        TurnDoor x = new TurnDoor();
        long eight = 0x2020202020202020L;
        check.due("one byte", x.type(eight, 1), 1);
        check.due("eight bytes", x.type(eight, 8), 9);
        check.due("bytes above the lowest do not matter", x.type(0xff00ff00ff00ff20L, 1), 10);
        x.people();
        check.due("the highest first", x.type('7' << 16 | 's' << 8 | 'w', 3), 3);
        check.due("eight, the highest first", x.type(0x3b31327363202020L, 8), 11);
        check.due("people()", x.people(), 2);
        check.due("the first", x.told(0, 0), 7);
        check.due("the second", x.told(1, 0), 12);
        check.says("BAD: n, a byte not 32 .. 126");
        int[] wrong = {0, 9, -1, 64, FAR_DOWN, FAR_UP};
        for (int n : wrong) {
            check.due("type(.., " + n + ")", x.type(eight, n), TurnDoor.BAD);
        }
        int[] bytes = {0, 31, 127, 128, 160, 255};
        for (int b : bytes) {
            for (int place = 0; place < 8; place++) {
                long w = eight & ~(255L << 8 * place) | (long) b << 8 * place;
                check.due("byte " + b + " at " + place, x.type(w, 8), TurnDoor.BAD);
            }
        }
        check.due("byte 32, the first of an empty tape", x.type(32, 1), 1);
        check.due("byte 126", x.type(126, 1), 2);
        check.due("byte 126, the highest of eight", x.type(126L << 56 | eight >>> 8, 8), 10);
        check.due("byte 31 above the lowest", x.type(31L << 56 | eight >>> 8, 7), 17);
    }

    private static void fullTape() {
        check.says("type: FULL: 80.");
        TurnDoor x = new TurnDoor();
        long eight = 0x2020202020202020L;
        for (int i = 1; i <= 9; i++) {
            check.due("eight more", x.type(eight, 8), 8 * i);
        }
        check.due("one more", x.type(eight, 1), 73);
        check.due("eight more would be 81", x.type(eight, 8), TurnDoor.FULL);
        check.due("BAD ahead of FULL: n", x.type(eight, 9), TurnDoor.BAD);
        check.due("BAD ahead of FULL: a byte", x.type(eight | 0x7f, 8), TurnDoor.BAD);
        check.due("seven more are just 80", x.type(eight, 7), 80);
        check.due("one more would be 81", x.type(eight, 1), TurnDoor.FULL);
        check.due("BAD ahead of FULL", x.type(eight, 0), TurnDoor.BAD);
        check.due("people() reads 80 bytes", x.people(), -100);
        check.due("behind it there is room", x.type(eight, 8), 8);
        x = new TurnDoor();
        for (int i = 1; i < 10; i++) {
            x.type(eight, 8);
        }
        check.due("eight more are just 80", x.type(eight, 8), 80);
        x = new TurnDoor();
        check.due("a text of 80 bytes", Check.typed(x, "00000000000000001sw;" + "                    2sw;"
            + "3               h b ; 4s          d "), 80);
        check.due("is read to its end", x.people(), 4);
        check.due("its last one", x.told(3, 2), 5);
    }

    private static void reads(String text, int want) {
        TurnDoor x = new TurnDoor();
        Check.typed(x, text);
        check.due("'" + text + "'", x.people(), want);
        check.due("'" + text + "' came", x.count(0), Math.max(0, want));
        check.due("THE TAPE, which is empty then, behind '" + text + "'", x.type(' ', 1), 1);
        check.due("a blank tape", x.people(), -21);
    }

    private static void texts() {
        check.says("1 to 8 with ; between");
        reads("", -20);
        reads("1sw", 1);
        reads("1sw;2hb", 2);
        reads(EIGHT, 8);
        reads(EIGHT + "  ", 8);
        reads(EIGHT + ";9sw", -51);
        reads(EIGHT + ";", -51);
        reads(EIGHT + " ; 9sw", -52);
        reads(EIGHT + "9sw", -51);
        reads(";1sw", -20);
        reads("1sw;", -24);
        reads("1sw;;2sw", -24);
        reads("1sw; ;2sw", -25);
        reads("1sw 2sw", -24);
        reads("1sw2sw", -23);
        reads("1sw,2sw", -23);
        check.says("a number (TICK)");
        reads("0sw", 1);
        reads("00sw", 1);
        reads("119sw", 1);
        reads("0000119sw", 1);
        reads("sw", -20);
        reads("h", -20);
        reads("1sw;hw", -24);
        reads("1sw; s", -25);
        reads("x1sw", -20);
        reads("-1sw", -20);
        reads("+1sw", -20);
        reads("/sw", -20);
        reads(":sw", -20);
        reads("1.5sw", -21);
        check.says("of a number that may not be its first byte");
        reads("120sw", -20);
        reads("0120sw", -20);
        reads("  120sw", -22);
        reads("120", -20);
        reads("120 ", -20);
        reads("120x", -20);
        reads("1sw;120sw", -24);
        reads("1sw; 999", -25);
        reads("4294967297sw", -20);
        reads("2147483648sw", -20);
        reads("18446744073709551617sw", -20);
        reads("10000000000000000000000000000000000000000000000000000000000000000000000000000000".substring(0, 78) + "sw", -20);
        reads("00000000000000000000000000000000000000000000000000000000000000000000000000000000".substring(0, 77) + "5sw", 1);
    }

    private static void faults() {
        check.says("s or h (the side)");
        reads("1hw", 1);
        reads("1ww", -21);
        reads("1Sw", -21);
        reads("1;", -21);
        reads("1rw", -21);
        reads("1tw", -21);
        reads("1gw", -21);
        reads("1iw", -21);
        check.says("a KIND's letter w b t c h d (in the order of KINDS)");
        for (int c = 32; c <= 126; c++) {
            reads("1s" + (char) c, "wbtchd".indexOf(c) >= 0 ? 1 : c == 32 ? -23 : -22);
        }
        for (int kind = 0; kind < 6; kind++) {
            TurnDoor x = Check.withPeople("1h" + "wbtchd".charAt(kind));
            check.due("kind of " + "wbtchd".charAt(kind), x.told(0, 2), kind);
        }
        check.due("s is the street", Check.withPeople("1sh").told(0, 1), 0);
        check.due("h is the hall", Check.withPeople("1hh").told(0, 1), 1);
        check.says("blanks do not count, but end a number");
        reads(" 1 s w ", 1);
        reads("   1   s   w   ;   2   h   b   ", 2);
        reads("1 1sw", -22);
        reads("11 9sw", -23);
        reads("12 0sw", -23);
        reads("1sw ;2sw", 2);
        check.due("a number that a blank ended", Check.withPeople("11 sw").told(0, 0), 11);
        check.says("the end: how many bytes there are");
        reads(" ", -21);
        reads("        ", -28);
        reads("1", -21);
        reads("119", -23);
        reads("1 ", -22);
        reads("1s", -22);
        reads("1s  ", -24);
        reads("1sw; ", -25);
        reads("1sw;2", -25);
        reads("1sw;2h", -26);
    }

    private static void ends() {
        check.says("THE TAPE, which is empty then");
        TurnDoor x = Check.withPeople("11sw;12hb");
        check.due("both came", x.count(0), 2);
        Check.typed(x, "13s");
        check.due("no letter is left from the text before", x.people(), -23);
        Check.typed(x, "13");
        check.due("no side is left from the text before", x.people(), -22);
        Check.typed(x, "1");
        check.due("no digit, no side is left from the text before", x.people(), -21);
        Check.typed(x, "13hw");
        check.due("no second one is left from the text before", x.people(), 1);
        check.says("the end: how many bytes there are");
        String blanks = "                                                                                ";
        reads(blanks, -100);
        reads(blanks.substring(1) + "1", -100);
        reads(blanks.substring(2) + "1s", -100);
        reads(blanks.substring(3) + "1sw", 1);
        reads(blanks.substring(4) + "1sw;", -100);
        reads(blanks.substring(3) + "120", -97);
        reads("1sw" + blanks.substring(3), 1);
        reads("1sw" + blanks.substring(4) + "x", -99);
    }

    private static void fullCrowd() {
        check.says("FULL: not all have room (none comes)");
        TurnDoor x = Check.door("0sw;0sw;0sw;0sw");
        Check.typed(x, EIGHT);
        check.due("just twelve", x.people(), 8);
        check.due("all of them", x.count(0), 12);
        check.due("the last", x.told(11, 0), 8);
        Check.typed(x, "1sw");
        check.due("one more", x.people(), TurnDoor.FULL);
        check.due("none has come", x.count(0), 12);
        check.due("the tape is empty", x.type(' ', 1), 1);
        x = Check.door("0sw;0sw;0sw;0sw;0sw");
        Check.typed(x, EIGHT);
        check.due("thirteen", x.people(), TurnDoor.FULL);
        check.due("none has come", x.count(0), 5);
        check.due("nobody is number 5", x.told(5, 0), TurnDoor.BAD);
        Check.typed(x, EIGHT + ";");
        check.due("A FAULT ahead of FULL", x.people(), -51);
        check.due("none has come", x.count(0), 5);
        Check.typed(x, "1sw;2sw;3sw;4sw;5sw;6sw;7sw");
        check.due("just twelve", x.people(), 7);
    }

    public static void main(String[] args) {
        calls512();
        sectors();
        steps();
        openings();
        sharesRefused();
        settings();
        newObject();
        persons();
        tellings();
        delays();
        clearing();
        typing();
        fullTape();
        texts();
        faults();
        ends();
        fullCrowd();
        check.end("DrumEdgesTest");
    }
}
