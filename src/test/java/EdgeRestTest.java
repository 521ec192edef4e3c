/** Term 8 and promises 34 to 42: sheets, images, numbers that wait, what is counted and told. */
public final class EdgeRestTest {
    private static final int MAX = Integer.MAX_VALUE;
    private static final int MIN = Integer.MIN_VALUE;
    private static final String MOVE = "n numbers of a SHEET, from number i on, come to another one (or the same), from its number j"
        + " on, as they all were: n.";
    private static final String OUTSIDE = "BEYOND: n, i, or j is below 0, or they don't stand there.";
    private static final String IMAGE = "All (but SHEETS, THE TRACE, what told() tells, and how often this was done) is kept as an"
        + " IMAGE, in place of one ahead: how often that was done.";
    private static final String CHECK = "The numbers that wait (none do then) are CELLS of a WALKER behind each TENTH from NOW on"
        + " (nothing changes; TENTHS above 9999 are as others): 0; else 1 and the place of the first that isn't.";

    public static void main(String[] args) {
        rowsOfBits();
        sheet();
        sheetRefused();
        put();
        putRefused();
        move();
        moveRefused();
        image();
        imageLeaves();
        restore();
        tell();
        check();
        checkChangesNothing();
        checkRefused();
        count();
        told();
        Due.end("EdgeRestTest");
    }

    private static void rowsOfBits() {
        String rows = "SHEETS 0 .. 3 are rows of 8, 16, 32 bits, at most 24 numbers, or missing (as at first).";
        ClickStreet s = Edge.of("Term 8", rows, "SHEETS 0 and 3, -1 and 4");
        Due.is("-1", s.sheet(-1, 8, 1), Due.BEYOND);
        Due.is("0", s.sheet(0, 8, 1), 1);
        Due.is("3", s.sheet(3, 8, 1), 1);
        Due.is("4", s.sheet(4, 8, 1), Due.BEYOND);
        s = Edge.of("Term 8", rows, "missing at first");
        for (int i = 0; i < 4; i++) {
            Due.is("put", s.put(i, 0, 1), Due.NONE);
        }
        for (int bits = -8; bits <= 64; bits++) {
            s = Edge.of("Term 8", rows, bits + " bits");
            boolean is = bits == 0 || bits == 8 || bits == 16 || bits == 32;
            Due.is("sheet", s.sheet(0, bits, 1), is ? 1 : Due.BEYOND);
        }
        for (int bits = 8; bits <= 32; bits *= 2) {
            s = Edge.of("Term 8", rows, "24 numbers of " + bits + " bits, and one more");
            Due.is("24", s.sheet(0, bits, 24), 1);
            Due.is("the last", s.put(0, 23, 1), 1);
            Due.is("25", s.sheet(0, bits, 25), Due.BEYOND);
            Due.is("the last still", s.put(0, 23, 1), 1);
        }
    }

    private static void sheet() {
        String has = "A SHEET has n numbers, all 0, of so many bits (8, 16, 32; 0: it is missing, n doesn't matter): 1.";
        ClickStreet s = Edge.of("Promise 34", has, "n 0");
        Due.is("sheet", s.sheet(0, 8, 0), 1);
        Due.is("it is not missing", s.lays(0, 0), 0);
        Due.is("it has none", s.put(0, 0, 1), Due.BEYOND);
        s = Edge.of("Promise 34", has, "all 0");
        Due.sheet(s, 0, 8, 1, 1, 1);
        s.sheet(0, 8, 3);
        Due.is("lays", s.lays(0, 0), 0);
        for (int bits = 8; bits <= 32; bits *= 2) {
            s = Edge.of("Promise 34", has, "all 0, not another number: " + bits + " bits");
            s.walker(1, 7, 0);
            s.sheet(0, bits, 1);
            Due.is("CELL 0", s.spots(0, 0, 1, 1), 1);
            s.thing(0, 0);
            Due.is("it isn't FREE", s.spots(0, 0, 1, 1), Due.STATE);
        }
        s = Edge.of("Promise 34", has, "all 0, longer than ahead");
        Due.sheet(s, 0, 8, 1, 1, 1);
        s.sheet(0, 8, 1);
        s.sheet(0, 8, 5);
        Due.is("lays", s.lays(0, 0), 0);
        s = Edge.of("Promise 34", has, "all 0, behind it was missing");
        Due.sheet(s, 0, 8, 1, 1, 1);
        s.sheet(0, 0, 3);
        s.sheet(0, 8, 3);
        Due.is("lays", s.lays(0, 0), 0);
        int[] any = {0, 24, 25, -1, MAX, MIN};
        for (int n : any) {
            s = Edge.of("Promise 34", has, "0 bits, n " + n);
            s.sheet(0, 8, 2);
            Due.is("sheet", s.sheet(0, 0, n), 1);
            Due.is("it is missing", s.put(0, 0, 1), Due.NONE);
        }
        s = Edge.of("Promise 34", has, "one that is missing is missing again");
        Due.is("sheet", s.sheet(0, 0, 5), 1);
        Due.is("put", s.put(0, 0, 1), Due.NONE);
        s = Edge.of("Promise 34", has, "other bits than ahead");
        s.sheet(0, 32, 2);
        s.sheet(0, 8, 2);
        Due.is("lays", s.lays(0, 0), 0);
        s.sheet(0, 16, 2);
        Due.is("lays", s.lays(0, 0), Due.KIND);
    }

    private static void sheetRefused() {
        int[][] bad = {{-1, 8, 1}, {4, 8, 1}, {0, -8, 1}, {0, 1, 1}, {0, 7, 1}, {0, 9, 1}, {0, 24, 1}, {0, 64, 1},
            {4, 0, 1}, {-1, 0, 1}, {MAX, 8, 1}, {0, MIN, 1}, {0, 9, -1}, {4, 8, -1}};
        for (int[] a : bad) {
            ClickStreet s = Edge.of("Promise 34", "BEYOND.", a[0] + ", " + a[1] + ", " + a[2]);
            Due.is("sheet", s.sheet(a[0], a[1], a[2]), Due.BEYOND);
        }
        String state = "STATE: n is below 0 (ahead of BEYOND of n).";
        int[] below = {-1, -25, MIN};
        for (int n : below) {
            ClickStreet s = Edge.of("Promise 34", state, "n " + n);
            Due.is("8 bits", s.sheet(0, 8, n), Due.STATE);
            Due.is("16 bits", s.sheet(0, 16, n), Due.STATE);
            Due.is("32 bits", s.sheet(0, 32, n), Due.STATE);
            Due.is("STATE is told, BEYOND is not", s.told(3) * 10 + s.told(1), 30);
        }
        int[] above = {25, 100, MAX};
        for (int n : above) {
            ClickStreet s = Edge.of("Promise 34", "BEYOND.", "n " + n);
            Due.is("sheet", s.sheet(0, 8, n), Due.BEYOND);
            Due.is("it is missing still", s.put(0, 0, 1), Due.NONE);
        }
    }

    private static void put() {
        String put = "Number i of a SHEET becomes v (its lowest bits): 1.";
        ClickStreet s = Edge.of("Promise 35", put, "8 bits: 0x7FFFFF03, -253, 259, 3");
        int[] eight = {0x7FFFFF03, -253, 259, 3};
        s.sheet(0, 8, 4);
        for (int i = 0; i < 4; i++) {
            Due.is("put", s.put(0, i, eight[i]), 1);
        }
        Due.is("lays", s.lays(0, 0), 4);
        for (int i = 0; i < 4; i++) {
            Due.is("KIND", s.thingIs(i, 0), 2);
        }
        s = Edge.of("Promise 35", put, "8 bits: 256 is 0");
        Due.sheet(s, 0, 8, 256, 0, -256);
        Due.is("lays", s.lays(0, 0), 0);
        s = Edge.of("Promise 35", put, "16 bits: 65536 and 50");
        s.walker(1, 0, 0);
        s.sheet(0, 16, 1);
        Due.is("65586", s.put(0, 0, 65536 + 50), 1);
        Due.is("it is 50", s.spots(0, 0, 1, 0), 0);
        s.put(0, 0, 306);
        Due.is("306 is 306", s.spots(0, 0, 1, 0), Due.KIND);
        s.put(0, 0, -65536 + 50);
        Due.is("-65486 is 50", s.spots(0, 0, 1, 0), 0);
        s = Edge.of("Promise 35", put, "32 bits: all of them");
        s.walker(1, 0, 0);
        s.sheet(0, 32, 1);
        s.put(0, 0, 65536 + 50);
        Due.is("65586", s.spots(0, 0, 1, 0), Due.KIND);
        s.put(0, 0, MIN + 50);
        Due.is("the least and 50", s.spots(0, 0, 1, 0), Due.KIND);
        s.put(0, 0, 50);
        Due.is("50", s.spots(0, 0, 1, 0), 0);
        s = Edge.of("Promise 35", put, "the first and the last, no other");
        s.sheet(0, 8, 16);
        s.put(0, 0, 1);
        s.put(0, 15, 1);
        s.put(0, 15, 2);
        Due.is("lays", s.lays(0, 0), 2);
        Due.is("the last", s.thingIs(1, 0), 1);
        Due.is("x 15", s.at(15), 1);
    }

    private static void putRefused() {
        int[] bad = {-1, 4, MAX, MIN};
        for (int sheet : bad) {
            ClickStreet s = Edge.of("Promise 35", "BEYOND: no such SHEET.", "SHEET " + sheet);
            Due.is("put", s.put(sheet, 0, 1), Due.BEYOND);
            Due.is("put, no such number either", s.put(sheet, -1, 1), Due.BEYOND);
        }
        int[] numbers = {-1, 0, 24, MAX, MIN};
        for (int i : numbers) {
            ClickStreet s = Edge.of("Promise 35", "NONE: it is missing.", "number " + i);
            Due.is("put", s.put(0, i, 1), Due.NONE);
        }
        String number = "BEYOND: no such number.";
        for (int n = 0; n <= 24; n += 8) {
            ClickStreet s = Edge.of("Promise 35", number, "of " + n);
            s.sheet(0, 16, n);
            Due.is("ahead", s.put(0, -1, 1), Due.BEYOND);
            Due.is("behind", s.put(0, n, 1), Due.BEYOND);
            Due.is("far behind", s.put(0, MAX, 1), Due.BEYOND);
            Due.is("far ahead", s.put(0, MIN, 1), Due.BEYOND);
            Due.is("the last", s.put(0, n - 1, 1), n == 0 ? Due.BEYOND : 1);
        }
    }

    /** The KINDS of the THINGS that a SHEET lays in row 7, 0 for none. */
    private static void holds(ClickStreet s, int sheet, int... numbers) {
        s.lays(sheet, 7);
        for (int x = 0; x < numbers.length; x++) {
            int thing = s.at(112 + x);
            Due.is("number " + x, thing < 0 ? 0 : s.thingIs(thing, 0) + 1, numbers[x]);
            s.away(thing);
        }
        Due.is("no more", s.at(112 + numbers.length), -1);
    }

    private static void move() {
        ClickStreet s = Edge.of("Promise 36", MOVE, "all of them");
        Due.sheet(s, 0, 8, 1, 2, 3);
        s.sheet(1, 8, 3);
        Due.is("move", s.move(0, 0, 1, 0, 3), 3);
        holds(s, 1, 1, 2, 3);
        holds(s, 0, 1, 2, 3);
        s = Edge.of("Promise 36", MOVE, "none: n 0");
        Due.sheet(s, 0, 8, 1, 2, 3);
        s.sheet(1, 8, 3);
        Due.is("at the start", s.move(0, 0, 1, 0, 0), 0);
        Due.is("at the end", s.move(0, 3, 1, 3, 0), 0);
        holds(s, 1, 0, 0, 0);
        s = Edge.of("Promise 36", MOVE, "none of a SHEET without numbers");
        s.sheet(0, 8, 0);
        s.sheet(1, 8, 0);
        Due.is("move", s.move(0, 0, 1, 0, 0), 0);
        s = Edge.of("Promise 36", MOVE, "the last to the first");
        Due.sheet(s, 0, 8, 1, 2, 3);
        Due.sheet(s, 1, 8, 4, 4, 4, 4);
        Due.is("move", s.move(0, 2, 1, 0, 1), 1);
        holds(s, 1, 3, 4, 4, 4);
        s = Edge.of("Promise 36", MOVE, "the first to the last");
        Due.sheet(s, 0, 8, 1, 2, 3);
        Due.sheet(s, 1, 8, 4, 4, 4, 4);
        Due.is("move", s.move(0, 0, 1, 3, 1), 1);
        holds(s, 1, 4, 4, 4, 1);
        s = Edge.of("Promise 36", MOVE, "the same, on by one: as they all were");
        Due.sheet(s, 0, 8, 1, 2, 3, 4, 5);
        Due.is("move", s.move(0, 0, 0, 1, 4), 4);
        holds(s, 0, 1, 1, 2, 3, 4);
        s = Edge.of("Promise 36", MOVE, "the same, back by one: as they all were");
        Due.sheet(s, 0, 8, 1, 2, 3, 4, 5);
        Due.is("move", s.move(0, 1, 0, 0, 4), 4);
        holds(s, 0, 2, 3, 4, 5, 5);
        s = Edge.of("Promise 36", MOVE, "the same, to where they stand");
        Due.sheet(s, 0, 8, 1, 2, 3);
        Due.is("move", s.move(0, 0, 0, 0, 3), 3);
        holds(s, 0, 1, 2, 3);
        s = Edge.of("Promise 36", MOVE, "24 numbers of 32 bits");
        s.sheet(0, 32, 24);
        s.sheet(1, 32, 24);
        Due.is("move", s.move(0, 0, 1, 0, 24), 24);
    }

    private static void moveRefused() {
        int[][] bad = {{-1, 0}, {4, 0}, {0, -1}, {0, 4}, {MAX, 0}, {0, MIN}};
        for (int[] a : bad) {
            ClickStreet s = Edge.of("Promise 36", "BEYOND: no such SHEET.", a[0] + ", " + a[1]);
            s.sheet(0, 8, 3);
            Due.is("move", s.move(a[0], 0, a[1], 0, 1), Due.BEYOND);
        }
        ClickStreet s = Edge.of("Promise 36", "NONE: one is missing.", "the first, the other, both");
        s.sheet(1, 8, 3);
        Due.is("the first", s.move(0, 0, 1, 0, 1), Due.NONE);
        Due.is("the other", s.move(1, 0, 0, 0, 1), Due.NONE);
        Due.is("both", s.move(0, 0, 2, 0, 1), Due.NONE);
        Due.is("the same", s.move(0, 0, 0, 0, 0), Due.NONE);
        for (int a = 8; a <= 32; a *= 2) {
            for (int b = 8; b <= 32; b *= 2) {
                s = Edge.of("Promise 36", "KIND: they are of unlike bits.", a + " and " + b);
                s.sheet(0, a, 3);
                s.sheet(1, b, 3);
                Due.is("one number", s.move(0, 0, 1, 0, 1), a == b ? 1 : Due.KIND);
                Due.is("none", s.move(0, 0, 1, 0, 0), a == b ? 0 : Due.KIND);
            }
        }
        // i, j, n on SHEETS of 3 and 5 numbers
        int[][] outside = {{0, 0, -1}, {-1, 0, 1}, {0, -1, 1}, {-1, 0, 0}, {0, -1, 0}, {0, 0, 4}, {1, 0, 3}, {2, 0, 2},
            {3, 0, 1}, {0, 3, 3}, {0, 4, 2}, {0, 5, 1}, {4, 0, 0}, {0, 6, 0}, {MAX, 0, 1}, {0, MAX, 1}, {0, 0, MAX},
            {1, 1, MAX}, {MAX, MAX, MAX}, {MIN, 0, 1}, {0, MIN, 1}, {0, 0, MIN}, {3, 5, MIN}};
        for (int[] a : outside) {
            s = Edge.of("Promise 36", OUTSIDE, "i " + a[0] + ", j " + a[1] + ", n " + a[2]);
            Due.sheet(s, 0, 8, 1, 2, 3);
            Due.sheet(s, 1, 8, 4, 4, 4, 4, 4);
            Due.is("move", s.move(0, a[0], 1, a[1], a[2]), Due.BEYOND);
            holds(s, 1, 4, 4, 4, 4, 4);
        }
        int[][] inside = {{0, 0, 3}, {0, 2, 3}, {2, 4, 1}, {3, 5, 0}, {1, 3, 2}};
        for (int[] a : inside) {
            s = Edge.of("Promise 36", OUTSIDE, "not i " + a[0] + ", j " + a[1] + ", n " + a[2]);
            Due.sheet(s, 0, 8, 1, 2, 3);
            Due.sheet(s, 1, 8, 4, 4, 4, 4, 4);
            Due.is("move", s.move(0, a[0], 1, a[1], a[2]), a[2]);
        }
    }

    private static void image() {
        ClickStreet s = Edge.of("Promise 37", IMAGE, "how often");
        Due.is("once", s.image(), 1);
        Due.is("twice", s.image(), 2);
        s.restore();
        Due.is("three times", s.image(), 3);
        s = Edge.of("Promise 37", IMAGE, "of a new object");
        s.image();
        s.walker(0, 5, 0);
        s.thing(0, 6);
        s.tenths(5);
        Due.is("restore", s.restore(), 0);
        Due.is("WALKERS", s.count(2), 0);
        Due.is("THINGS", s.count(1), 0);
        Due.is("CELL 5", s.at(5), -1);
        Due.is("CELL 6", s.at(6), -1);
        s = Edge.of("Promise 37", IMAGE, "in place of one ahead");
        s.thing(0, 5);
        s.image();
        s.thing(0, 6);
        s.image();
        s.thing(0, 7);
        s.restore();
        Due.is("THINGS", s.count(1), 2);
        imageOfAll();
        s = Edge.of("Promise 37", IMAGE, "what comes behind it does not touch it");
        s.walker(1, 80, 2);
        s.thing(0, 83);
        Due.text(s, 0, "77");
        s.lesson(1, 0, 5);
        s.feed(0x31, 1);
        s.tell(80);
        s.image();
        s.click(0);
        s.away(0);
        Due.text(s, 0, "1+");
        Due.text(s, 0, "88");
        s.lesson(2, 0, 5);
        s.check(0);
        s.habit(0, 1, 1, 1);
        s.restore();
        Due.is("HEAD", s.heads(0, 0), 192);
        Due.is("THING", s.at(83), 0);
        Due.is("TEXT", s.echo(0, 560, 2, 2), 77);
        Due.is("LESSONS", s.count(3), 1);
        Due.is("THE TAPE", s.text(2), 1);
        Due.is("waits", s.check(0), 0);
        Due.is("PITCH", s.walkerIs(0, 3), 5);
    }

    /** Each number that can be asked for, as it was, whatever came behind it. */
    private static void imageOfAll() {
        ClickStreet s = Edge.of("Promise 37", IMAGE, "each number of a WALKER, a THING, a KIND, the air");
        s.walker(7, 80, 2);
        s.thing(4, 82);
        s.thing(3, 100);
        s.moves(0, 1, 3);
        s.moves(1, 6, 2);
        s.away(1);
        s.habit(0, 3, 33, 1);
        s.goes(0, true);
        s.tenths(1);
        s.click(0);
        for (int i = 0; i < 3; i++) {
            s.air(i, 1);
        }
        for (int kind = 0; kind < 5; kind++) {
            s.kind(kind, 0, 10 + kind);
            s.kind(kind, 1, 1 + kind);
        }
        int[] walker = new int[12];
        for (int what = 0; what < 12; what++) {
            walker[what] = s.walkerIs(0, what);
        }
        s.image();
        ClickStreet bare = new ClickStreet();
        bare.image();
        Due.is("another object's IMAGE", bare.restore(), 0);
        for (int i = 0; i < 2; i++) {
            s.habit(0, 9, 99, 9);
            s.face(0, 7);
            s.tenths(5);
            s.goes(0, false);
            s.click(0);
            s.moves(0, 5, 7);
            s.thing(0, 7);
            for (int what = 0; what < 3; what++) {
                s.air(what, 0);
            }
            for (int kind = 0; kind < 5; kind++) {
                s.kind(kind, 0, 99);
                s.kind(kind, 1, 9);
            }
            Due.is("restore", s.restore(), 1);
            for (int what = 0; what < 12; what++) {
                Due.is("walkerIs " + what, s.walkerIs(0, what), walker[what]);
            }
            int[] bus = {4, 82, 1, 3};
            int[] man = {3, -1, 6, 2};
            for (int what = 0; what < 4; what++) {
                Due.is("the BUS " + what, s.thingIs(0, what), bus[what]);
                Due.is("the MAN " + what, s.thingIs(1, what), man[what]);
            }
            for (int what = 0; what < 3; what++) {
                Due.is("air " + what, s.air(what, 0), 1);
            }
            for (int kind = 0; kind < 5; kind++) {
                Due.is("LOUD", s.kind(kind, 0, 99), 10 + kind);
                Due.is("SHARP", s.kind(kind, 1, 9), 1 + kind);
            }
        }
    }

    private static void imageLeaves() {
        ClickStreet s = Edge.of("Promise 37", IMAGE, "but SHEETS");
        Due.sheet(s, 0, 8, 1);
        Due.sheet(s, 1, 8, 1);
        s.image();
        s.put(0, 0, 3);
        s.sheet(1, 0, 0);
        s.sheet(2, 8, 2);
        s.restore();
        Due.is("put stays", s.lays(0, 0), 1);
        Due.is("KIND", s.thingIs(0, 0), 2);
        Due.is("missing stays", s.put(1, 0, 1), Due.NONE);
        Due.is("there stays", s.put(2, 1, 1), 1);
        s = Edge.of("Promise 37", IMAGE, "but THE TRACE");
        s.walker(0, 5, 0);
        s.voice(0, 0, 1);
        s.image();
        s.voice(0, 1, 1);
        s.restore();
        Due.is("BODIES", s.count(6), 2);
        Due.is("the first", s.trace(0), 11);
        s = Edge.of("Promise 37", IMAGE, "but what told() tells");
        s.at(-1);
        s.image();
        s.at(-1);
        s.at(-1);
        s.restore();
        Due.is("told", s.told(1), 3);
        s = Edge.of("Promise 37", IMAGE, "but how often this was done");
        s.image();
        s.image();
        s.restore();
        s.restore();
        Due.is("image", s.image(), 3);
    }

    private static void restore() {
        String all = "All is as the IMAGE has it, which stays: NOW.";
        ClickStreet s = Edge.of("Promise 38", all, "NOW");
        s.tenths(7);
        s.image();
        s.tenths(100);
        Due.is("restore", s.restore(), 7);
        Due.is("NOW", s.count(0), 7);
        s = Edge.of("Promise 38", all, "which stays");
        s.thing(0, 5);
        s.image();
        for (int i = 0; i < 3; i++) {
            s.away(0);
            s.thing(1, 6 + i);
            Due.is("restore", s.restore(), 0);
            Due.is("THINGS", s.count(1), 1);
            Due.is("CELL 5", s.at(5), 0);
            Due.is("the next number", s.thing(1, 9), 1);
        }
        s = Edge.of("Promise 38", all, "what came behind it comes as new");
        s.image();
        s.walker(1, 80, 2);
        s.habit(0, 9, 9, 9);
        s.goes(0, true);
        s.thing(0, 83);
        s.air(0, 0);
        s.click(0);
        Due.text(s, 2, "0");
        s.tenths(3);
        Due.is("BUMPS", s.count(7), 1);
        s.restore();
        Due.is("no BUMPS of any", s.count(7), 0);
        Due.is("no CLICKS of any", s.count(8), 0);
        s.walker(1, 80, 0);
        int[] fresh = {1, 80, 0, 5, 60, 0, 0, 0, 0, 12, 1, 9};
        for (int what = 0; what < 12; what++) {
            Due.is("walkerIs " + what, s.walkerIs(0, what), fresh[what]);
        }
        Due.is("HEAD", s.heads(0, 0), 192);
        Due.is("NOISE", s.air(0, 0), 5);
        s = Edge.of("Promise 38", all, "a HEAD that comes behind it is new in CELLS 0 and 191, too");
        s.image();
        s.walker(1, 3, 6);
        s.walker(1, 188, 2);
        s.thing(0, 0);
        s.thing(0, 191);
        s.click(0);
        s.click(1);
        s.thing(0, 1);
        s.thing(0, 190);
        s.air(1, 0);
        s.click(0);
        s.click(1);
        s.restore();
        s.walker(1, 3, 6);
        s.walker(1, 188, 2);
        for (int cell = 0; cell < 192; cell++) {
            for (int walker = 0; walker < 2; walker++) {
                Due.is("YES", s.head(walker, cell, 0), 0);
                Due.is("NO", s.head(walker, cell, 1), 0);
            }
        }
        s = Edge.of("Promise 38", "NONE: there is none.", "at first");
        Due.is("restore", s.restore(), Due.NONE);
        Due.is("again", s.restore(), Due.NONE);
        s.image();
        Due.is("behind an IMAGE", s.restore(), 0);
    }

    private static void tell() {
        ClickStreet s = Edge.of("Promise 39", "One more number waits: how many.", "any number");
        Due.is("the least", s.tell(MIN), 1);
        Due.is("the greatest", s.tell(MAX), 2);
        Due.is("-1", s.tell(-1), 3);
        Due.is("192", s.tell(192), 4);
        Due.is("192 again", s.tell(192), 5);
        s = Edge.of("Promise 39", "FULL: 24 wait.", "the 24th, the 25th");
        for (int i = 1; i <= 23; i++) {
            s.tell(5);
        }
        Due.is("the 24th", s.tell(5), 24);
        Due.is("the 25th", s.tell(5), Due.FULL);
        Due.is("they wait", s.count(5), 24);
    }

    private static void check() {
        ClickStreet s = Edge.of("Promise 40", CHECK, "none wait");
        s.walker(0, 80, 2);
        s.goes(0, true);
        Due.is("check", s.check(0), 0);
        s = Edge.of("Promise 40", CHECK, "the first is behind one TENTH, not where it is");
        s.walker(0, 80, 2);
        s.goes(0, true);
        s.tell(80);
        Due.is("80", s.check(0), 1);
        s.tell(81);
        Due.is("81", s.check(0), 0);
        s = Edge.of("Promise 40", CHECK, "the place of the first that isn't");
        s.walker(0, 80, 2);
        s.goes(0, true);
        for (int wrong = 1; wrong <= 4; wrong++) {
            for (int i = 1; i <= 4; i++) {
                s.tell(i >= wrong ? 5 : 80 + i);
            }
            Due.is("from " + wrong + " on", s.check(0), wrong);
        }
        s = Edge.of("Promise 40", CHECK, "24, all are; the 24th isn't");
        s.walker(0, 80, 2);
        for (int i = 0; i < 24; i++) {
            s.tell(80);
        }
        Due.is("all", s.check(0), 0);
        for (int i = 0; i < 24; i++) {
            s.tell(i == 23 ? 81 : 80);
        }
        Due.is("the 24th", s.check(0), 24);
        int[] none = {-1, 192, MAX, MIN};
        for (int v : none) {
            s = Edge.of("Promise 40", CHECK, v + " is no CELL");
            s.walker(0, 80, 2);
            s.tell(80);
            s.tell(v);
            Due.is("check", s.check(0), 2);
        }
        s = Edge.of("Promise 40", CHECK, "none do then");
        s.walker(0, 80, 2);
        s.tell(80);
        s.check(0);
        Due.is("none wait", s.count(5), 0);
        s.tell(5);
        s.check(0);
        Due.is("none wait", s.count(5), 0);
        Due.is("the next is the first", s.tell(1), 1);
        s = Edge.of("Promise 40", CHECK, "from NOW on");
        s.walker(0, 80, 2);
        s.goes(0, true);
        Due.text(s, 2, "[t=4?0:2]");
        s.tenths(2);
        s.face(0, 2);
        s.tell(80);
        Due.is("TENTH 3", s.check(0), 0);
        s.tell(80);
        s.tell(80);
        Due.is("TENTH 4: it has turned, and goes", s.check(0), 2);
    }

    private static void checkChangesNothing() {
        ClickStreet s = Edge.of("Promise 40", CHECK, "nothing changes");
        s.walker(7, 80, 2);
        s.goes(0, true);
        s.habit(0, 5, 60, 1);
        s.thing(3, 90);
        s.moves(0, 6, 1);
        s.thing(0, 84);
        for (int i = 0; i < 24; i++) {
            s.tell(i == 0 ? 82 : 83);
        }
        int answer = s.check(0);
        Due.is("some are", answer > 1 ? 1 : 0, 1);
        Due.is("NOW", s.count(0), 0);
        Due.is("CELL", s.walkerIs(0, 1), 80);
        Due.is("SIDE", s.walkerIs(0, 2), 2);
        Due.is("BUMPS", s.count(7), 0);
        Due.is("CLICKS", s.count(8), 0);
        Due.is("HEAD", s.heads(0, 0), 192);
        Due.is("the MAN", s.thingIs(0, 1), 90);
        Due.is("its SIDE", s.thingIs(0, 2), 6);
        Due.is("at", s.at(80), 100);
        Due.is("at", s.at(90), 0);
        s = Edge.of("Promise 40", CHECK, "KINDS, TEXTS and the air are as they are");
        s.walker(1, 80, 2);
        s.thing(0, 83);
        s.kind(0, 1, 6);
        s.thing(4, 85);
        s.away(0);
        s.habit(0, 5, 60, 1);
        s.goes(0, true);
        Due.text(s, 2, "[f=5?1:0]");
        s.tell(80);
        s.tell(97);
        Due.is("the BUS is HEARD at 5: it FACES south-east, and goes", s.check(0), 0);
        Due.text(s, 2, "[f=5?3:0]");
        s.tell(80);
        s.tell(64);
        s.tell(48);
        Due.is("it FACES north, and goes", s.check(0), 0);
        s = Edge.of("Promise 40", CHECK, "an IMAGE stays");
        s.walker(0, 80, 2);
        s.goes(0, true);
        s.image();
        s.tenths(3);
        s.tell(84);
        Due.is("check", s.check(0), 0);
        Due.is("restore", s.restore(), 0);
        Due.is("CELL", s.walkerIs(0, 1), 80);
        s = Edge.of("Promise 40", CHECK, "TENTHS above 9999 are as others");
        s.walker(0, 80, 2);
        for (int i = 0; i < 99; i++) {
            s.tenths(100);
        }
        s.tenths(99);
        s.goes(0, true);
        Due.text(s, 2, "[t=9*9*9*9+3*999+442?0:2]");
        for (int i = 1; i <= 24; i++) {
            s.tell(81);
        }
        Due.is("it goes on in TENTH 10000 alone", s.check(0), 0);
        Due.text(s, 2, "[t/100=100?0:2]");
        for (int i = 1; i <= 15; i++) {
            s.tell(80 + i);
        }
        s.tell(95);
        Due.is("15 CELLS, then the edge", s.check(0), 0);
        Due.is("NOW", s.count(0), 9999);
    }

    private static void checkRefused() {
        int[] bad = {-1, 1, 8, MAX, MIN};
        for (int walker : bad) {
            ClickStreet s = Edge.of("Promise 40", "BEYOND (none wait then, too).", "WALKER " + walker);
            s.walker(0, 80, 2);
            s.tell(80);
            s.tell(80);
            Due.is("check", s.check(walker), Due.BEYOND);
            Due.is("none wait", s.count(5), 0);
            Due.is("told", s.told(1), 1);
        }
        ClickStreet s = Edge.of("Promise 40", "BEYOND (none wait then, too).", "without WALKERS, none wait");
        Due.is("check", s.check(0), Due.BEYOND);
    }

    private static void count() {
        String all = "0 NOW, 1 THINGS that aren't away, 2 WALKERS, 3 LESSONS, 4 bytes of THE TAPE, 5 numbers that wait, 6 BODIES in"
            + " THE TRACE, 7 BUMPS of all, 8 CLICKS of all.";
        ClickStreet s = Edge.of("Promise 41", all, "0 at first");
        for (int what = 0; what < 9; what++) {
            Due.is("what " + what, s.count(what), 0);
        }
        s = Edge.of("Promise 41", all, "the most");
        for (int i = 0; i < 40; i++) {
            s.thing(0, i);
        }
        for (int i = 0; i < 8; i++) {
            s.walker(1, 100 + i, 0);
            s.lesson(1, 0, 1);
            s.feed(0, 8);
        }
        for (int i = 0; i < 30; i++) {
            s.tell(i);
        }
        int[] most = {0, 40, 8, 7, 48, 24};
        for (int what = 0; what < 6; what++) {
            Due.is("what " + what, s.count(what), most[what]);
        }
        s = Edge.of("Promise 41", all, "THINGS that aren't away");
        for (int i = 0; i < 40; i++) {
            s.thing(0, i);
            s.away(i);
        }
        Due.is("none", s.count(1), 0);
        s = Edge.of("Promise 41", all, "BUMPS and CLICKS of all");
        for (int i = 0; i < 8; i++) {
            s.walker(1, 16 * i + 15, 2);
            s.goes(i, true);
            s.habit(i, 5, 60, 1);
        }
        s.tenths(3);
        Due.is("BUMPS", s.count(7), 24);
        Due.is("CLICKS", s.count(8), 24);
        int[] bad = {-1, 9, MAX, MIN};
        for (int what : bad) {
            s = Edge.of("Promise 41", "BEYOND.", "what " + what);
            Due.is("count", s.count(what), Due.BEYOND);
        }
    }

    private static void told() {
        String told = "How many acts have answered an ERROR LOW - k (k 1 .. 6);";
        ClickStreet s = Edge.of("Promise 42", told, "none at first");
        for (int k = 1; k <= 6; k++) {
            Due.is("told " + k, s.told(k), 0);
        }
        s = Edge.of("Promise 42", told, "each of its own");
        for (int i = 0; i < 7; i++) {
            s.walker(0, i, 0);
        }
        s.walker(0, 7, 0);
        for (int i = 0; i < 6; i++) {
            s.at(192);
        }
        for (int i = 0; i < 5; i++) {
            s.trace(0);
        }
        for (int i = 0; i < 4; i++) {
            s.thing(0, 0);
        }
        for (int i = 0; i < 3; i++) {
            s.walker(0, 100, 0);
        }
        s.click(0);
        s.click(0);
        s.voice(3, 3, 0);
        for (int k = 1; k <= 6; k++) {
            Due.is("told " + k, s.told(k), 7 - k);
        }
        String another = "BEYOND: another k (counted, too).";
        int[] bad = {0, -1, 7, MAX, MIN};
        for (int k : bad) {
            s = Edge.of("Promise 42", another, "k " + k);
            Due.is("told", s.told(k), Due.BEYOND);
            Due.is("counted", s.told(1), 1);
            Due.is("told again", s.told(k), Due.BEYOND);
            Due.is("counted again", s.told(1), 2);
        }
    }
}
