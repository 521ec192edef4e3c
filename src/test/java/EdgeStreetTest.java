/** Promises 1 to 15: what is in the street, what walkers are. */
public final class EdgeStreetTest {
    public static void main(String[] args) {
        newObject();
        thing();
        thingIs();
        moves();
        away();
        kind();
        at();
        lays();
        laysRefused();
        air();
        walker();
        walkerIs();
        as();
        habit();
        faceAndGoes();
        Due.end("EdgeStreetTest");
    }

    private static void newObject() {
        ClickStreet s = Edge.of("Promise 1", "No THINGS, WALKERS.", "none");
        Due.is("THINGS", s.count(1), 0);
        Due.is("WALKERS", s.count(2), 0);
        Due.is("THING 0", s.thingIs(0, 0), Due.BEYOND);
        Due.is("WALKER 0", s.walkerIs(0, 0), Due.BEYOND);
        s = Edge.of("Promise 1", "No THINGS, WALKERS.", "every CELL is FREE");
        for (int cell = 0; cell < 192; cell++) {
            Due.is("at", s.at(cell), -1);
        }
        s = Edge.of("Promise 1", "No THINGS, WALKERS.", "two objects have nothing to do with each other");
        ClickStreet other = new ClickStreet();
        other.thing(0, 5);
        other.walker(0, 6, 0);
        other.kind(0, 0, 1);
        other.tenths(7);
        other.feed(0x31, 1);
        Due.text(other, 2, "2");
        other.sheet(0, 8, 1);
        other.image();
        other.at(192);
        Due.is("THINGS", s.count(1), 0);
        Due.is("CELL 6", s.at(6), -1);
        Due.is("LOUD", s.kind(0, 0, 50), 50);
        Due.is("NOW", s.count(0), 0);
        Due.is("SHEET", s.put(0, 0, 1), Due.NONE);
        Due.is("IMAGE", s.restore(), Due.NONE);
        Due.is("told", s.told(1), 0);
    }

    private static void thing() {
        ClickStreet s = Edge.of("Promise 2", "A THING in a CELL: its number.", "numbers from 0 on");
        Due.is("first", s.thing(0, 191), 0);
        Due.is("second", s.thing(4, 0), 1);
        Due.is("where it is", s.at(0), 1);
        s = Edge.of("Promise 2", "A THING in a CELL: its number.", "a number is not given twice");
        s.thing(0, 5);
        s.away(0);
        Due.is("the next", s.thing(0, 5), 1);
        int[][] bad = {{-1, 0}, {5, 0}, {0, -1}, {0, 192}, {Integer.MIN_VALUE, 0}, {Integer.MAX_VALUE, 0},
            {0, Integer.MIN_VALUE}, {0, Integer.MAX_VALUE}};
        for (int[] a : bad) {
            s = Edge.of("Promise 2", "BEYOND.", "KIND " + a[0] + ", CELL " + a[1]);
            Due.is("thing", s.thing(a[0], a[1]), Due.BEYOND);
        }
        s = Edge.of("Promise 2", "STATE: it isn't FREE.", "a THING is there");
        s.thing(0, 0);
        Due.is("thing", s.thing(0, 0), Due.STATE);
        s = Edge.of("Promise 2", "STATE: it isn't FREE.", "a WALKER is there");
        s.walker(0, 0, 0);
        Due.is("thing", s.thing(0, 0), Due.STATE);
        s = Edge.of("Promise 2", "STATE: it isn't FREE.", "a MAN came there");
        s.thing(3, 0);
        s.moves(0, 2, 1);
        s.tenths(1);
        Due.is("where it is", s.thing(0, 1), Due.STATE);
        Due.is("where it was", s.thing(0, 0), 1);
        s = Edge.of("Promise 2", "FULL.", "the 41st");
        for (int i = 0; i < 40; i++) {
            Due.is("thing", s.thing(i % 5, i), i);
        }
        Due.is("thing", s.thing(0, 40), Due.FULL);
        s = Edge.of("Promise 2", "FULL.", "the 41st, though all others are away");
        for (int i = 0; i < 40; i++) {
            s.thing(0, i);
            s.away(i);
        }
        Due.is("thing", s.thing(0, 0), Due.FULL);
    }

    private static void thingIs() {
        String is = "Of a THING: 0 KIND, 1 its CELL (-1: away), 2 its SIDE (0 of KINDS 0 to 2), 3 its STEP.";
        for (int kind = 0; kind < 5; kind++) {
            ClickStreet s = Edge.of("Promise 3", is, "KIND " + kind);
            s.thing(kind, 77);
            s.moves(0, 3, 4);
            Due.is("KIND", s.thingIs(0, 0), kind);
            Due.is("CELL", s.thingIs(0, 1), 77);
            Due.is("SIDE", s.thingIs(0, 2), kind < 3 ? 0 : 3);
            Due.is("STEP", s.thingIs(0, 3), kind < 3 ? 0 : 4);
        }
        ClickStreet s = Edge.of("Promise 3", is, "away");
        s.thing(3, 77);
        s.moves(0, 3, 4);
        s.away(0);
        Due.is("KIND", s.thingIs(0, 0), 3);
        Due.is("CELL", s.thingIs(0, 1), -1);
        int[][] bad = {{-1, 0}, {1, 0}, {40, 0}, {0, -1}, {0, 4}, {Integer.MAX_VALUE, 0}, {0, Integer.MIN_VALUE}};
        for (int[] a : bad) {
            s = Edge.of("Promise 3", "BEYOND.", "THING " + a[0] + ", what " + a[1]);
            s.thing(0, 5);
            Due.is("thingIs", s.thingIs(a[0], a[1]), Due.BEYOND);
        }
        s = Edge.of("Promise 3", "BEYOND.", "THING 39 is the last");
        for (int i = 0; i < 40; i++) {
            s.thing(0, i);
        }
        Due.is("39", s.thingIs(39, 1), 39);
        Due.is("40", s.thingIs(40, 1), Due.BEYOND);
    }

    private static void moves() {
        String goes = "A MAN or BUS goes from now on: 1.";
        for (int kind = 3; kind <= 4; kind++) {
            ClickStreet s = Edge.of("Promise 4", goes, "KIND " + kind);
            s.thing(kind, 77);
            s.tenths(4);
            Due.is("moves", s.moves(0, 6, 1), 1);
            Due.is("not yet", s.thingIs(0, 1), 77);
            s.tenths(1);
            Due.is("the next TENTH", s.thingIs(0, 1), 76);
        }
        int[][] bad = {{-1, 0, 1}, {1, 0, 1}, {0, -1, 1}, {0, 8, 1}, {0, 0, -1}, {0, 0, 21}, {40, 0, 1},
            {0, Integer.MAX_VALUE, 1}, {0, 0, Integer.MIN_VALUE}};
        for (int[] a : bad) {
            ClickStreet s = Edge.of("Promise 4", "BEYOND: THING, SIDE, STEP.", a[0] + ", " + a[1] + ", " + a[2]);
            s.thing(3, 77);
            Due.is("moves", s.moves(a[0], a[1], a[2]), Due.BEYOND);
        }
        for (int kind = 0; kind < 3; kind++) {
            ClickStreet s = Edge.of("Promise 4", "KIND.", "of KIND " + kind);
            s.thing(kind, 77);
            Due.is("moves", s.moves(0, 0, 1), Due.KIND);
        }
        ClickStreet s = Edge.of("Promise 4", "STATE: it is away.", "a MAN");
        s.thing(3, 77);
        s.away(0);
        Due.is("moves", s.moves(0, 0, 1), Due.STATE);
        s = Edge.of("Promise 4", "STATE: it is away.", "not one in CELL 0");
        s.thing(3, 0);
        Due.is("moves", s.moves(0, 0, 1), 1);
    }

    private static void away() {
        String away = "A THING is away from now on: the CELL in which it was.";
        ClickStreet s = Edge.of("Promise 5", away, "CELLS 0 and 191");
        s.thing(0, 0);
        s.thing(4, 191);
        Due.is("away", s.away(0), 0);
        Due.is("away", s.away(1), 191);
        Due.is("at", s.at(0), -1);
        Due.is("at", s.at(191), -1);
        s = Edge.of("Promise 5", away, "of one that went on");
        s.thing(3, 20);
        s.moves(0, 2, 1);
        s.tenths(2);
        Due.is("away", s.away(0), 22);
        Due.is("at", s.at(22), -1);
        s = Edge.of("Promise 5", away, "it goes on no more, nor does it turn");
        s.thing(3, 20);
        s.moves(0, 2, 1);
        s.away(0);
        s.tenths(3);
        Due.is("CELL", s.thingIs(0, 1), -1);
        Due.is("SIDE", s.thingIs(0, 2), 2);
        Due.is("STEP", s.thingIs(0, 3), 1);
        int[] bad = {-1, 1, 40, Integer.MAX_VALUE, Integer.MIN_VALUE};
        for (int thing : bad) {
            s = Edge.of("Promise 5", "BEYOND.", "THING " + thing);
            s.thing(0, 5);
            Due.is("away", s.away(thing), Due.BEYOND);
        }
        s = Edge.of("Promise 5", "STATE: it is away.", "twice");
        s.thing(0, 0);
        Due.is("first", s.away(0), 0);
        Due.is("second", s.away(0), Due.STATE);
        s = Edge.of("Promise 5", "STATE: it is away.", "another came where it was");
        s.thing(0, 5);
        s.away(0);
        s.thing(0, 5);
        Due.is("away", s.away(0), Due.STATE);
        Due.is("the other stays", s.at(5), 1);
    }

    private static void kind() {
        String was = "LOUD (what 0), SHARP (1) of a KIND becomes v: what it was.";
        ClickStreet s = Edge.of("Promise 6", was, "0 and the most");
        Due.is("LOUD 0", s.kind(4, 0, 0), 50);
        Due.is("LOUD 99", s.kind(4, 0, 99), 0);
        Due.is("LOUD 1", s.kind(4, 0, 1), 99);
        Due.is("SHARP 9", s.kind(4, 1, 9), 0);
        Due.is("SHARP 0", s.kind(4, 1, 0), 9);
        s = Edge.of("Promise 6", was, "of that KIND alone");
        s.kind(0, 0, 1);
        s.kind(0, 1, 1);
        for (int kind = 1; kind < 5; kind++) {
            Due.is("LOUD", s.kind(kind, 0, 2), 50);
            Due.is("SHARP", s.kind(kind, 1, 2), 0);
        }
        int[][] bad = {{-1, 0, 0}, {5, 0, 0}, {0, -1, 0}, {0, 2, 0}, {0, 0, -1}, {0, 0, 100}, {0, 1, -1}, {0, 1, 10},
            {Integer.MAX_VALUE, 0, 0}, {0, 0, Integer.MAX_VALUE}, {0, 1, Integer.MIN_VALUE}};
        for (int[] a : bad) {
            s = Edge.of("Promise 6", "BEYOND.", a[0] + ", " + a[1] + ", " + a[2]);
            Due.is("kind", s.kind(a[0], a[1], a[2]), Due.BEYOND);
        }
    }

    private static void at() {
        String at = "What is in a CELL: -1 nothing, the number of a THING, 100 and the number of a WALKER.";
        ClickStreet s = Edge.of("Promise 7", at, "nothing");
        Due.is("at", s.at(0), -1);
        s = Edge.of("Promise 7", at, "THING 0, THING 39");
        for (int i = 0; i < 40; i++) {
            s.thing(0, i);
        }
        Due.is("0", s.at(0), 0);
        Due.is("39", s.at(39), 39);
        s = Edge.of("Promise 7", at, "WALKER 0, WALKER 7");
        for (int i = 0; i < 8; i++) {
            s.walker(0, i, 0);
        }
        Due.is("0", s.at(0), 100);
        Due.is("7", s.at(7), 107);
        s = Edge.of("Promise 7", at, "THING 1, WALKER 1 where they went");
        s.thing(3, 100);
        s.thing(3, 120);
        s.walker(0, 0, 2);
        s.walker(0, 20, 2);
        s.moves(1, 2, 1);
        s.goes(1, true);
        s.tenths(1);
        Due.is("THING 1", s.at(121), 1);
        Due.is("WALKER 1", s.at(21), 101);
        Due.is("WALKER 0", s.at(0), 100);
        int[] bad = {-1, 192, Integer.MAX_VALUE, Integer.MIN_VALUE};
        for (int cell : bad) {
            s = Edge.of("Promise 7", "BEYOND.", "CELL " + cell);
            Due.is("at", s.at(cell), Due.BEYOND);
        }
    }

    private static void lays() {
        String lays = "THINGS by a SHEET, for CELLS of row y from x = 0 on: a number k from 1 to 5 is a THING of KIND k - 1,"
            + " if the CELL is FREE and there is room; others nothing: how many came.";
        ClickStreet s = Edge.of("Promise 8", lays, "no numbers");
        s.sheet(0, 8, 0);
        Due.is("came", s.lays(0, 0), 0);
        for (int v = -2; v <= 8; v++) {
            s = Edge.of("Promise 8", lays, "the number " + v);
            s.sheet(0, 8, 1);
            s.put(0, 0, v);
            boolean is = v >= 1 && v <= 5;
            Due.is("came", s.lays(0, 3), is ? 1 : 0);
            Due.is("KIND", s.thingIs(0, 0), is ? v - 1 : Due.BEYOND);
            Due.is("CELL", s.at(48), is ? 0 : -1);
        }
        s = Edge.of("Promise 8", lays, "numbers of 8 bits: 257, 261, -251");
        Due.sheet(s, 0, 8, 257, 261, -251);
        Due.is("came", s.lays(0, 0), 3);
        Due.is("KIND of 257", s.thingIs(0, 0), 0);
        Due.is("KIND of 261", s.thingIs(1, 0), 4);
        Due.is("KIND of -251", s.thingIs(2, 0), 4);
        for (int y = 0; y < 12; y += 11) {
            s = Edge.of("Promise 8", lays, "16 numbers in row " + y);
            Due.sheet(s, 0, 8, 1, 1, 1, 1, 1, 1, 1, 1, 1, 1, 1, 1, 1, 1, 1, 1);
            Due.is("came", s.lays(0, y), 16);
            Due.is("x 0", s.at(16 * y), 0);
            Due.is("x 15", s.at(16 * y + 15), 15);
            Due.is("no other", s.count(1), 16);
        }
        s = Edge.of("Promise 8", lays, "CELLS that are not FREE");
        s.walker(0, 1, 0);
        s.thing(4, 2);
        Due.sheet(s, 0, 8, 1, 1, 1, 1);
        Due.is("came", s.lays(0, 0), 2);
        Due.is("the WALKER", s.at(1), 100);
        Due.is("the BUS", s.at(2), 0);
        Due.is("the next number", s.at(3), 2);
        s = Edge.of("Promise 8", lays, "room for one");
        for (int i = 0; i < 39; i++) {
            s.thing(0, 100 + i);
        }
        Due.sheet(s, 0, 8, 0, 3, 3);
        Due.is("came", s.lays(0, 0), 1);
        Due.is("the one", s.at(1), 39);
        Due.is("the other", s.at(2), -1);
        s = Edge.of("Promise 8", lays, "no room");
        for (int i = 0; i < 40; i++) {
            s.thing(0, 100 + i);
        }
        Due.sheet(s, 0, 8, 3);
        Due.is("came, and no ERROR", s.lays(0, 0), 0);
    }

    private static void laysRefused() {
        int[][] bad = {{-1, 0}, {4, 0}, {0, -1}, {0, 12}, {Integer.MAX_VALUE, 0}, {0, Integer.MIN_VALUE}};
        for (int[] a : bad) {
            ClickStreet s = Edge.of("Promise 8", "BEYOND: SHEET, y.", "SHEET " + a[0] + ", y " + a[1]);
            s.sheet(0, 8, 1);
            Due.is("lays", s.lays(a[0], a[1]), Due.BEYOND);
        }
        ClickStreet s = Edge.of("Promise 8", "NONE: never walked: it is missing.", "as at first");
        Due.is("lays", s.lays(0, 0), Due.NONE);
        s = Edge.of("Promise 8", "NONE: never walked: it is missing.", "again");
        s.sheet(0, 8, 1);
        s.sheet(0, 0, 1);
        Due.is("lays", s.lays(0, 0), Due.NONE);
        for (int bits = 16; bits <= 32; bits *= 2) {
            s = Edge.of("Promise 8", "KIND: it has other bits than 8.", bits + " bits");
            s.sheet(0, bits, 1);
            Due.is("lays", s.lays(0, 0), Due.KIND);
        }
        s = Edge.of("Promise 8", "STATE: it has more than 16 numbers.", "17, 24");
        s.sheet(0, 8, 17);
        Due.is("17", s.lays(0, 0), Due.STATE);
        s.sheet(0, 8, 24);
        Due.is("24", s.lays(0, 0), Due.STATE);
        s = Edge.of("Promise 8", "STATE: it has more than 16 numbers.", "not 16");
        s.sheet(0, 8, 16);
        Due.is("16", s.lays(0, 0), 0);
    }

    private static void air() {
        String air = "NOISE (what 0), MASK (1) becomes v; SNOW (2; 1, 0; not at first): what it was.";
        int[] most = {99, 90, 1};
        int[] first = {5, 9, 0};
        for (int what = 0; what < 3; what++) {
            ClickStreet s = Edge.of("Promise 9", air, "what " + what);
            Due.is("at first", s.air(what, 0), first[what]);
            Due.is("0", s.air(what, most[what]), 0);
            Due.is("the most", s.air(what, 0), most[what]);
            s = Edge.of("Promise 9", "BEYOND.", "what " + what + ", below and above");
            Due.is("-1", s.air(what, -1), Due.BEYOND);
            Due.is("above", s.air(what, most[what] + 1), Due.BEYOND);
            Due.is("the greatest", s.air(what, Integer.MAX_VALUE), Due.BEYOND);
            Due.is("the least", s.air(what, Integer.MIN_VALUE), Due.BEYOND);
        }
        ClickStreet s = Edge.of("Promise 9", "BEYOND.", "what -1, 3");
        Due.is("-1", s.air(-1, 0), Due.BEYOND);
        Due.is("3", s.air(3, 0), Due.BEYOND);
        s = Edge.of("Promise 9", air, "SNOW ends");
        s.walker(1, 80, 0);
        s.thing(0, 83);
        s.air(2, 1);
        Due.is("in SNOW", s.echo(0, 560, 2, 2), 27);
        s.air(2, 0);
        Due.is("without", s.echo(0, 560, 2, 2), 54);
    }

    private static void walker() {
        ClickStreet s = Edge.of("Promise 10", "A WALKER in a CELL: its number.", "CELLS 0 and 191");
        Due.is("first", s.walker(0, 0, 7), 0);
        Due.is("second", s.walker(7, 191, 0), 1);
        Due.is("at", s.at(191), 101);
        int[][] bad = {{-1, 0, 0}, {8, 0, 0}, {0, -1, 0}, {0, 192, 0}, {0, 0, -1}, {0, 0, 8},
            {Integer.MAX_VALUE, 0, 0}, {0, Integer.MIN_VALUE, 0}, {0, 0, Integer.MAX_VALUE}};
        for (int[] a : bad) {
            s = Edge.of("Promise 10", "BEYOND.", a[0] + ", " + a[1] + ", " + a[2]);
            Due.is("walker", s.walker(a[0], a[1], a[2]), Due.BEYOND);
        }
        s = Edge.of("Promise 10", "STATE: it isn't FREE.", "THING 0");
        s.thing(0, 5);
        Due.is("walker", s.walker(0, 5, 0), Due.STATE);
        s = Edge.of("Promise 10", "STATE: it isn't FREE.", "WALKER 0");
        s.walker(0, 5, 0);
        Due.is("walker", s.walker(0, 5, 0), Due.STATE);
        s = Edge.of("Promise 10", "FULL.", "the ninth");
        for (int i = 0; i < 8; i++) {
            Due.is("walker", s.walker(i, i, 0), i);
        }
        Due.is("walker", s.walker(0, 8, 0), Due.FULL);
    }

    private static void walkerIs() {
        String is = "Of a WALKER: 0 KIND, 1 its CELL, 2 the SIDE that is FACED, 3 PITCH, 4 LOUDNESS, 5 EVERY, 6 whether it GOES"
            + " (1, 0), 7 BUMPS, 8 CLICKS that it made, 9 REACH, 10 SPEED, 11 EARS.";
        ClickStreet s = Edge.of("Promise 11", is, "each of its own number");
        s.walker(0, 0, 0);
        s.walker(7, 14, 2);
        s.habit(1, 3, 44, 7);
        s.goes(1, true);
        s.tenths(2);
        s.click(1);
        s.click(1);
        int[] due = {7, 15, 2, 3, 44, 7, 1, 2, 2, 10, 2, 9};
        for (int what = 0; what < 12; what++) {
            Due.is("what " + what, s.walkerIs(1, what), due[what]);
        }
        s = Edge.of("Promise 11", is, "0 at first");
        s.walker(6, 30, 0);
        int[] first = {6, 30, 0, 5, 60, 0, 0, 0, 0, 5, 1, 5};
        for (int what = 0; what < 12; what++) {
            Due.is("what " + what, s.walkerIs(0, what), first[what]);
        }
        int[][] bad = {{-1, 0}, {1, 0}, {8, 0}, {0, -1}, {0, 12}, {Integer.MIN_VALUE, 0}, {0, Integer.MAX_VALUE}};
        for (int[] a : bad) {
            s = Edge.of("Promise 11", "BEYOND.", "WALKER " + a[0] + ", what " + a[1]);
            s.walker(0, 5, 0);
            Due.is("walkerIs", s.walkerIs(a[0], a[1]), Due.BEYOND);
        }
    }

    private static void as() {
        int[] reach = {3, 12, 1, 6, 0, 6, 5, 10};
        for (int kind = 0; kind < 8; kind++) {
            ClickStreet s = Edge.of("Promise 12", "A WALKER as one of a KIND: REACH.", "KIND " + kind);
            s.walker(kind, 5, 0);
            Due.is("as itself", s.as(0, kind), reach[kind]);
            Due.is("as a WALKER, its own REACH", s.as(0, 0), reach[kind]);
        }
        int[][] bad = {{-1, 0}, {1, 0}, {0, -1}, {0, 8}, {Integer.MAX_VALUE, 0}, {0, Integer.MIN_VALUE}};
        for (int[] a : bad) {
            ClickStreet s = Edge.of("Promise 12", "BEYOND.", "WALKER " + a[0] + ", KIND " + a[1]);
            s.walker(0, 5, 0);
            Due.is("as", s.as(a[0], a[1]), Due.BEYOND);
        }
        String kind = "KIND: it is not of that KIND, nor of one under it.";
        int[][] not = {{0, 1}, {1, 5}, {1, 7}, {3, 6}, {5, 7}, {7, 5}, {5, 3}, {6, 1}, {2, 1}, {4, 3}};
        for (int[] a : not) {
            ClickStreet s = Edge.of("Promise 12", kind, a[0] + " as " + a[1]);
            s.walker(a[0], 5, 0);
            Due.is("as", s.as(0, a[1]), Due.KIND);
        }
    }

    private static void habit() {
        ClickStreet s = Edge.of("Promise 13", "PITCH, LOUDNESS, EVERY of a WALKER: 1.", "the least, the most");
        s.walker(0, 5, 0);
        Due.is("least", s.habit(0, 1, 1, 0), 1);
        Due.is("most", s.habit(0, 9, 99, 30), 1);
        Due.is("PITCH", s.walkerIs(0, 3), 9);
        Due.is("LOUDNESS", s.walkerIs(0, 4), 99);
        Due.is("EVERY", s.walkerIs(0, 5), 30);
        int[][] bad = {{-1, 5, 60, 0}, {1, 5, 60, 0}, {0, 0, 60, 0}, {0, 10, 60, 0}, {0, 5, 0, 0}, {0, 5, 100, 0},
            {0, 5, 60, -1}, {0, 5, 60, 31}, {0, Integer.MAX_VALUE, 60, 0}, {0, 5, Integer.MIN_VALUE, 0},
            {0, 5, 60, Integer.MAX_VALUE}, {Integer.MIN_VALUE, 5, 60, 0}};
        for (int[] a : bad) {
            s = Edge.of("Promise 13", "BEYOND.", a[0] + ", " + a[1] + ", " + a[2] + ", " + a[3]);
            s.walker(0, 5, 0);
            Due.is("habit", s.habit(a[0], a[1], a[2], a[3]), Due.BEYOND);
        }
    }

    private static void faceAndGoes() {
        ClickStreet s = Edge.of("Promise 14", "A WALKER FACES a SIDE: that ahead.", "0 and 7, and the same");
        s.walker(0, 5, 3);
        Due.is("3", s.face(0, 0), 3);
        Due.is("0", s.face(0, 7), 0);
        Due.is("7", s.face(0, 7), 7);
        Due.is("7 again", s.face(0, 0), 7);
        int[][] bad = {{-1, 0}, {1, 0}, {0, -1}, {0, 8}, {0, Integer.MAX_VALUE}, {Integer.MIN_VALUE, 0}};
        for (int[] a : bad) {
            s = Edge.of("Promise 14", "BEYOND.", "WALKER " + a[0] + ", SIDE " + a[1]);
            s.walker(0, 5, 0);
            Due.is("face", s.face(a[0], a[1]), Due.BEYOND);
        }
        s = Edge.of("Promise 15", "A WALKER GOES, or not: what it was, 1 or 0.", "each behind each");
        s.walker(0, 5, 3);
        Due.is("not, not", s.goes(0, false), 0);
        Due.is("not, goes", s.goes(0, true), 0);
        Due.is("goes, goes", s.goes(0, true), 1);
        Due.is("goes, not", s.goes(0, false), 1);
        Due.is("not", s.goes(0, false), 0);
        int[] no = {-1, 1, 8, Integer.MAX_VALUE};
        for (int walker : no) {
            s = Edge.of("Promise 15", "BEYOND.", "WALKER " + walker);
            s.walker(0, 5, 0);
            Due.is("goes", s.goes(walker, true), Due.BEYOND);
        }
    }
}
