/** Term 5 and promises 26 to 28: tenths, ways, how fast one may go. */
public final class EdgeWalkTest {
    private static final int MAX = Integer.MAX_VALUE;
    private static final int MIN = Integer.MIN_VALUE;
    private static final String TURNS = "A TENTH goes by, in turn: NOW is one more; THINGS by numbers go on; WALKERS by numbers that"
        + " GO:";
    private static final String CLICKS = "if EVERY divides NOW (and isn't 0), and it is a CLICKING one (or under it), it CLICKS;";
    private static final String REST = "then HABIT, its rest by 4 (0 .. 3):";
    private static final String GOES = "0 it goes on by SPEED CELLS, one by one, in the SIDE that is FACED: into each that is in"
        + " THE STREET and FREE; else that is a BUMP (one more; YES of the CELL, if there is one, is 3 more), and it stops;";
    private static final String FACES = "1 it FACES the next SIDE round; 2 the second next; 3 the second one ahead.";
    private static final int[] ROUND = {-16, -15, 1, 17, 16, 15, -1, -17};

    public static void main(String[] args) {
        turns();
        clicks();
        rests();
        faces();
        goesOn();
        bumps();
        riding();
        tenths();
        tenthsRefused();
        wayOfNone();
        wayCosts();
        wayTies();
        wayRefused();
        safeByEcho();
        safeByHead();
        Due.end("EdgeWalkTest");
    }

    private static ClickStreet going(String sentence, String what, int kind, int cell, int side) {
        ClickStreet s = Edge.of("Term 5", sentence, what);
        s.walker(kind, cell, side);
        s.goes(0, true);
        return s;
    }

    private static void turns() {
        ClickStreet s = going(TURNS, "NOW is one more ahead of all", 0, 85, 2);
        s.thing(3, 100);
        s.moves(0, 2, 1);
        Due.text(s, 2, "[t=1?1:2]");
        Due.is("NOW", s.tenths(1), 1);
        Due.is("the walker's NOW", s.walkerIs(0, 2), 3);
        Due.is("the MAN's NOW", s.thingIs(0, 1), 101);
        s = going(TURNS, "a THING comes ahead of a WALKER", 0, 85, 2);
        s.thing(3, 87);
        s.moves(0, 6, 1);
        s.tenths(1);
        Due.is("the MAN", s.thingIs(0, 1), 86);
        Due.is("BUMPS", s.walkerIs(0, 7), 1);
        s = Edge.of("Term 5", TURNS, "THINGS by numbers: the first takes the CELL");
        s.thing(3, 84);
        s.thing(3, 86);
        s.moves(0, 2, 1);
        s.moves(1, 6, 1);
        s.tenths(1);
        Due.is("0", s.thingIs(0, 1), 85);
        Due.is("1", s.thingIs(1, 1), 86);
        Due.is("1 has turned", s.thingIs(1, 2), 2);
        s = Edge.of("Term 5", TURNS, "THINGS by numbers: one behind the other");
        s.thing(3, 84);
        s.thing(3, 85);
        s.moves(0, 2, 1);
        s.moves(1, 2, 1);
        s.tenths(1);
        Due.is("0 is hindered", s.thingIs(0, 1), 84);
        Due.is("1 goes on", s.thingIs(1, 1), 86);
        s = going(TURNS, "WALKERS by numbers: the first takes the CELL", 0, 84, 2);
        s.walker(0, 86, 6);
        s.goes(1, true);
        s.tenths(1);
        Due.is("0", s.walkerIs(0, 1), 85);
        Due.is("1", s.walkerIs(1, 1), 86);
        Due.is("BUMPS of 1", s.walkerIs(1, 7), 1);
        s = going(TURNS, "one that does not GO does nothing", 1, 84, 2);
        s.thing(0, 85);
        s.habit(0, 5, 60, 1);
        s.goes(0, false);
        s.tenths(3);
        Due.is("CLICKS", s.walkerIs(0, 8), 0);
        Due.is("BUMPS", s.walkerIs(0, 7), 0);
        Due.is("SIDE", s.walkerIs(0, 2), 2);
    }

    private static void clicks() {
        int[] clicking = {0, 1, 0, 0, 0, 1, 0, 1};
        for (int kind = 0; kind < 8; kind++) {
            ClickStreet s = going(CLICKS, "KIND " + kind, kind, 85, 2);
            s.habit(0, 5, 60, 1);
            s.tenths(2);
            Due.is("CLICKS", s.walkerIs(0, 8), 2 * clicking[kind]);
        }
        ClickStreet s = going(CLICKS, "EVERY 0", 1, 85, 2);
        s.tenths(60);
        Due.is("CLICKS", s.walkerIs(0, 8), 0);
        s = going(CLICKS, "EVERY 7, TENTHS 1 .. 21", 1, 85, 2);
        s.habit(0, 5, 60, 7);
        for (int t = 1; t <= 21; t++) {
            s.tenths(1);
            Due.is("CLICKS at " + t, s.walkerIs(0, 8), t / 7);
        }
        s = going(CLICKS, "by NOW, not by when it began", 1, 85, 2);
        s.tenths(5);
        s.habit(0, 5, 60, 7);
        s.tenths(1);
        Due.is("TENTH 6", s.walkerIs(0, 8), 0);
        s.tenths(1);
        Due.is("TENTH 7", s.walkerIs(0, 8), 1);
        s = going(CLICKS, "ahead of HABIT", 1, 85, 2);
        s.thing(0, 86);
        s.air(1, 0);
        s.habit(0, 5, 60, 1);
        s.tenths(1);
        Due.is("it heard, and FACES the next", s.walkerIs(0, 2), 3);
        Due.is("BUMPS", s.walkerIs(0, 7), 0);
        s = going(CLICKS, "where it stands ahead of going on", 1, 85, 2);
        s.thing(0, 88);
        s.habit(0, 5, 60, 1);
        s.tenths(1);
        Due.is("NO of the nearest", s.head(0, 86, 1), 1);
        Due.is("it goes on", s.walkerIs(0, 1), 86);
    }

    private static void rests() {
        String[] texts = {"0", "1", "2", "3", "4", "5", "6", "7", "999", "0-1", "0-2", "0-3", "0-4", "0-5", "-1", "0-999",
            "999*999*999*3", "32*64*32*32*32*32", "32*64*32*32*32*32-1", "32*64*32*32*32*32+1"};
        int[] rest = {0, 1, 2, 3, 0, 1, 2, 3, 3, 3, 2, 1, 0, 3, 3, 1, 999 * 999 * 999 * 3 & 3, 0, 3, 1};
        int[] side = {2, 3, 4, 0};
        for (int i = 0; i < texts.length; i++) {
            ClickStreet s = going(REST, texts[i], 0, 85, 2);
            Due.text(s, 2, texts[i]);
            s.tenths(1);
            Due.is("SIDE", s.walkerIs(0, 2), side[rest[i]]);
            Due.is("CELL", s.walkerIs(0, 1), rest[i] == 0 ? 86 : 85);
        }
    }

    private static void faces() {
        int[] by = {0, 1, 2, 6};
        for (int facing = 0; facing < 8; facing++) {
            for (int act = 1; act <= 3; act++) {
                ClickStreet s = going(FACES, act + ", FACING " + facing, 0, 85, facing);
                Due.text(s, 2, Integer.toString(act));
                s.tenths(1);
                Due.is("SIDE", s.walkerIs(0, 2), (facing + by[act]) % 8);
                Due.is("CELL", s.walkerIs(0, 1), 85);
                Due.is("BUMPS", s.walkerIs(0, 7), 0);
            }
        }
    }

    private static void goesOn() {
        for (int facing = 0; facing < 8; facing++) {
            ClickStreet s = going(GOES, "FREE, FACING " + facing, 0, 85, facing);
            s.tenths(1);
            Due.is("CELL", s.walkerIs(0, 1), 85 + ROUND[facing]);
            Due.is("it is there", s.at(85 + ROUND[facing]), 100);
            Due.is("it is here no more", s.at(85), -1);
            Due.is("BUMPS", s.walkerIs(0, 7), 0);
            Due.is("HEAD", s.heads(0, 0), 192);
        }
        int[][] edges = {{3, 0}, {15, 1}, {31, 1}, {15, 2}, {191, 2}, {191, 3}, {31, 3}, {180, 4}, {176, 5}, {16, 5}, {16, 6},
            {0, 6}, {0, 7}, {16, 7}, {9, 7}};
        for (int[] a : edges) {
            ClickStreet s = going(GOES, "the edge at CELL " + a[0] + " in SIDE " + a[1], 0, a[0], a[1]);
            s.tenths(1);
            Due.is("CELL", s.walkerIs(0, 1), a[0]);
            Due.is("BUMPS", s.walkerIs(0, 7), 1);
            Due.is("no YES of any CELL", s.heads(0, 0), 192);
            Due.is("SIDE", s.walkerIs(0, 2), a[1]);
        }
    }

    private static void bumps() {
        for (int facing = 0; facing < 8; facing++) {
            ClickStreet s = going(GOES, "a THING, FACING " + facing, 0, 85, facing);
            s.thing(2, 85 + ROUND[facing]);
            s.tenths(1);
            Due.is("CELL", s.walkerIs(0, 1), 85);
            Due.is("BUMPS", s.walkerIs(0, 7), 1);
            Due.is("YES", s.head(0, 85 + ROUND[facing], 0), 3);
            Due.is("NO", s.head(0, 85 + ROUND[facing], 1), 0);
            Due.is("no other", s.heads(0, 0), 191);
        }
        ClickStreet s = going(GOES, "a WALKER", 0, 85, 2);
        s.walker(0, 86, 0);
        s.tenths(1);
        Due.is("BUMPS", s.walkerIs(0, 7), 1);
        Due.is("YES", s.head(0, 86, 0), 3);
        Due.is("BUMPS of the other", s.walkerIs(1, 7), 0);
        s = going(GOES, "CELL 0 is one", 0, 1, 6);
        s.thing(0, 0);
        s.tenths(1);
        Due.is("YES", s.head(0, 0, 0), 3);
        s = going(GOES, "CELL 191 is one", 0, 190, 2);
        s.thing(0, 191);
        s.tenths(1);
        Due.is("YES", s.head(0, 191, 0), 3);
        s = going(GOES, "each TENTH one more", 0, 85, 2);
        s.thing(2, 86);
        Due.text(s, 2, "0");
        s.tenths(5);
        Due.is("BUMPS", s.walkerIs(0, 7), 5);
        Due.is("YES", s.head(0, 86, 0), 15);
    }

    private static void riding() {
        ClickStreet s = going(GOES, "by 2 CELLS", 7, 85, 2);
        s.tenths(1);
        Due.is("CELL", s.walkerIs(0, 1), 87);
        Due.is("it is not between", s.at(86), -1);
        s = going(GOES, "the first CELL isn't FREE: one BUMP, and it stops", 7, 85, 2);
        s.thing(0, 86);
        s.tenths(1);
        Due.is("CELL", s.walkerIs(0, 1), 85);
        Due.is("BUMPS", s.walkerIs(0, 7), 1);
        Due.is("YES", s.head(0, 86, 0), 3);
        Due.is("nothing of the second", s.head(0, 87, 0), 0);
        s = going(GOES, "the second CELL isn't FREE", 7, 85, 2);
        s.thing(0, 87);
        s.tenths(1);
        Due.is("CELL", s.walkerIs(0, 1), 86);
        Due.is("BUMPS", s.walkerIs(0, 7), 1);
        Due.is("YES", s.head(0, 87, 0), 3);
        s = going(GOES, "one CELL to the edge", 7, 14, 2);
        s.tenths(1);
        Due.is("CELL", s.walkerIs(0, 1), 15);
        Due.is("BUMPS", s.walkerIs(0, 7), 1);
        s.tenths(1);
        Due.is("at the edge, one BUMP", s.walkerIs(0, 7), 2);
    }

    private static void tenths() {
        String go = "n (1 .. 100) TENTHS go by: NOW.";
        ClickStreet s = Edge.of("Promise 26", go, "1");
        Due.is("NOW", s.tenths(1), 1);
        s = Edge.of("Promise 26", go, "100");
        s.walker(0, 0, 2);
        s.goes(0, true);
        Due.is("NOW", s.tenths(100), 100);
        Due.is("15 CELLS, 85 BUMPS", s.walkerIs(0, 7), 85);
        s = Edge.of("Promise 26", go, "n at once, or one by one");
        ClickStreet one = new ClickStreet();
        for (int i = 0; i < 2; i++) {
            ClickStreet street = i == 0 ? s : one;
            street.walker(7, 85, 1);
            street.goes(0, true);
            street.habit(0, 5, 60, 3);
            street.thing(3, 70);
            street.moves(0, 3, 2);
            Due.text(street, 2, "[t%5?f>0:t]");
        }
        s.tenths(60);
        for (int i = 0; i < 60; i++) {
            one.tenths(1);
        }
        for (int what = 0; what < 9; what++) {
            Due.is("walkerIs " + what, s.walkerIs(0, what), one.walkerIs(0, what));
        }
        Due.is("the MAN", s.thingIs(0, 1), one.thingIs(0, 1));
        Due.is("UNKNOWN", s.heads(0, 0), one.heads(0, 0));
    }

    private static void tenthsRefused() {
        int[] bad = {0, -1, 101, MAX, MIN};
        for (int n : bad) {
            ClickStreet s = Edge.of("Promise 26", "BEYOND.", "n " + n);
            Due.is("tenths", s.tenths(n), Due.BEYOND);
        }
        String state = "STATE: NOW would be above 9999.";
        ClickStreet s = Edge.of("Promise 26", state, "9999, 10000");
        for (int i = 0; i < 99; i++) {
            s.tenths(100);
        }
        Due.is("10000", s.tenths(100), Due.STATE);
        Due.is("9999", s.tenths(99), 9999);
        for (int n = 1; n <= 100; n++) {
            Due.is("above", s.tenths(n), Due.STATE);
        }
        s = Edge.of("Promise 26", state, "none of them goes by");
        for (int i = 0; i < 99; i++) {
            s.tenths(100);
        }
        s.tenths(98);
        s.walker(0, 85, 2);
        s.goes(0, true);
        Due.is("two", s.tenths(2), Due.STATE);
        Due.is("CELL", s.walkerIs(0, 1), 85);
        Due.is("one", s.tenths(1), 9999);
        Due.is("CELL", s.walkerIs(0, 1), 86);
        s = Edge.of("Promise 26", state, "an IMAGE brings NOW back");
        s.image();
        for (int i = 0; i < 99; i++) {
            s.tenths(100);
        }
        s.restore();
        Due.is("NOW", s.tenths(100), 100);
    }

    private static final String WAY = "The way by a HEAD from a WALKER's CELL to another one over SIDES 0, 2, 4, 6: a CELL into which"
        + " one goes costs 1 HELD FREE, 3 UNKNOWN, 20 HELD FULL; the least: -1 what it costs, else the CELL behind so many steps"
        + " (from 0: its own); of several ways that which is first by SIDES, step by step.";

    private static void wayIs(ClickStreet s, int cell, int cost, int... cells) {
        Due.is("what it costs", s.way(0, cell, -1), cost);
        for (int i = 0; i < cells.length; i++) {
            Due.is("behind " + i, s.way(0, cell, i), cells[i]);
        }
        Due.is("no more", s.way(0, cell, cells.length), Due.NONE);
    }

    private static void wayOfNone() {
        ClickStreet s = Edge.of("Promise 27", WAY, "to its own CELL");
        s.walker(0, 85, 0);
        wayIs(s, 85, 0, 85);
        s = Edge.of("Promise 27", WAY, "one step in each SIDE");
        s.walker(0, 85, 0);
        for (int side = 0; side < 8; side += 2) {
            wayIs(s, 85 + ROUND[side], 3, 85, 85 + ROUND[side]);
        }
        s = Edge.of("Promise 27", WAY, "no step aslant");
        s.walker(0, 85, 0);
        wayIs(s, 70, 6, 85, 69, 70);
        wayIs(s, 102, 6, 85, 86, 102);
        wayIs(s, 100, 6, 85, 101, 100);
        wayIs(s, 68, 6, 85, 69, 68);
        s = Edge.of("Promise 27", WAY, "no step aslant, though one to 19 would seem to cost no more");
        s.walker(1, 2, 0);
        s.air(1, 0);
        int[] full = {0, 16, 17, 34, 50};
        for (int cell : full) {
            s.thing(0, cell);
        }
        s.click(0);
        wayIs(s, 16, 24, 2, 18, 17, 16);
        s = Edge.of("Promise 27", WAY, "to CELL 0, over CELL 0");
        s.walker(0, 17, 0);
        wayIs(s, 0, 6, 17, 1, 0);
        s.walker(1, 1, 0);
        s.air(1, 0);
        s.thing(0, 2);
        s.click(1);
        Due.is("17 and 2 HELD FULL", s.way(1, 16, -1), 6);
        Due.is("behind 1", s.way(1, 16, 1), 0);
        Due.is("behind 2", s.way(1, 16, 2), 16);
        s = Edge.of("Promise 27", WAY, "to CELL 191, over CELL 191");
        s.walker(0, 174, 0);
        s.walker(1, 190, 0);
        s.air(1, 0);
        s.thing(0, 189);
        s.click(1);
        Due.is("174 and 189 HELD FULL", s.way(1, 175, -1), 6);
        Due.is("behind 1", s.way(1, 175, 1), 191);
        Due.is("behind 2", s.way(1, 175, 2), 175);
        s = Edge.of("Promise 27", WAY, "from corner to corner: 26 steps");
        s.walker(0, 0, 0);
        Due.is("what it costs", s.way(0, 191, -1), 78);
        Due.is("15 to the east", s.way(0, 191, 15), 15);
        Due.is("the last", s.way(0, 191, 26), 191);
        Due.is("no more", s.way(0, 191, 27), Due.NONE);
        s = Edge.of("Promise 27", WAY, "not round the edge");
        s.walker(0, 15, 0);
        Due.is("16 CELLS", s.way(0, 16, -1), 48);
    }

    private static void wayCosts() {
        ClickStreet s = Edge.of("Promise 27", WAY, "HELD FREE 1, UNKNOWN 3, HELD FULL 20");
        s.walker(1, 80, 0);
        s.thing(0, 84);
        s.click(0);
        wayIs(s, 83, 3, 80, 81, 82, 83);
        wayIs(s, 84, 23, 80, 81, 82, 83, 84);
        Due.is("an UNKNOWN one beside", s.way(0, 83 - 16, -1), 3 + 3);
        s = Edge.of("Promise 27", WAY, "round what is HELD FULL");
        s.walker(1, 80, 0);
        s.thing(0, 84);
        s.click(0);
        wayIs(s, 85, 3 + 12, 80, 81, 82, 83, 67, 68, 69, 85);
        s = Edge.of("Promise 27", WAY, "through what is HELD FULL, if it costs no more");
        s.walker(1, 0, 2);
        s.goes(0, true);
        s.air(1, 0);
        s.thing(0, 1);
        s.thing(0, 16);
        s.click(0);
        wayIs(s, 2, 23, 0, 1, 2);
        wayIs(s, 17, 23, 0, 1, 17);
        s = Edge.of("Promise 27", WAY, "the CELL that is left costs nothing, that which is reached does");
        s.walker(1, 80, 2);
        s.thing(0, 82);
        s.air(1, 0);
        s.click(0);
        Due.is("into FULL", s.way(0, 82, -1), 21);
        s = Edge.of("Promise 27", WAY, "by the HEAD, not by what is there");
        s.walker(0, 80, 0);
        s.thing(0, 81);
        wayIs(s, 82, 6, 80, 81, 82);
    }

    private static void wayTies() {
        ClickStreet s = Edge.of("Promise 27", WAY, "SIDE 0 ahead of 2, 2 ahead of 4, 0 ahead of 6, 4 ahead of 6");
        s.walker(0, 85, 0);
        wayIs(s, 85 - 32 + 2, 12, 85, 69, 53, 54, 55);
        wayIs(s, 85 + 32 + 2, 12, 85, 86, 87, 103, 119);
        wayIs(s, 85 - 32 - 2, 12, 85, 69, 53, 52, 51);
        wayIs(s, 85 + 32 - 2, 12, 85, 101, 117, 116, 115);
        s = Edge.of("Promise 27", WAY, "step by step: the first step decides");
        s.walker(1, 80, 0);
        s.thing(0, 83);
        s.click(0);
        // 80, 81, 82, 66 and 80, 64, .. : by 81 and 82 it costs 1 + 1 + 3, else more
        wayIs(s, 66, 5, 80, 81, 82, 66);
        s = Edge.of("Promise 27", WAY, "of ways of unlike lengths that cost the same");
        s.walker(1, 80, 0);
        s.thing(0, 83);
        s.click(0);
        s.face(0, 0);
        // to 67: over 81, 82 (1 + 1 + 3 + 3) or over 64, 65, 66 (12)
        wayIs(s, 67, 8, 80, 81, 82, 66, 67);
    }

    private static void wayRefused() {
        int[][] bad = {{-1, 5, 0}, {1, 5, 0}, {0, -1, 0}, {0, 192, 0}, {0, 5, -2}, {MAX, 5, 0}, {0, MIN, 0}, {0, MAX, 0},
            {0, 5, MIN}};
        for (int[] a : bad) {
            ClickStreet s = Edge.of("Promise 27", "BEYOND: WALKER, CELL, what below -1.", a[0] + ", " + a[1] + ", " + a[2]);
            s.walker(0, 5, 0);
            Due.is("way", s.way(a[0], a[1], a[2]), Due.BEYOND);
        }
        String none = "NONE: it has not so many.";
        ClickStreet s = Edge.of("Promise 27", none, "one more than it has, many more");
        s.walker(0, 85, 0);
        Due.is("1 of 0", s.way(0, 85, 1), Due.NONE);
        Due.is("2 of 1", s.way(0, 86, 2), Due.NONE);
        Due.is("1 of 1", s.way(0, 86, 1), 86);
        Due.is("191", s.way(0, 86, 191), Due.NONE);
        Due.is("192", s.way(0, 86, 192), Due.NONE);
        Due.is("the greatest", s.way(0, 86, MAX), Due.NONE);
    }

    private static final String SAFE = "How fast a WALKER may go: the greatest v (0 .. 9) for which v (v + 1) / 2 is no more than YARDS"
        + " that are free for certain in the SIDE that is FACED:";

    private static void safeByEcho() {
        int[] due = {0, 1, 1, 2, 2, 2, 3, 3, 3, 3, 4, 4};
        for (int free = 0; free < 12; free++) {
            ClickStreet s = Edge.of("Promise 28", SAFE, free + " YARDS ahead of the ECHO");
            s.walker(1, 0, 2);
            s.air(1, 0);
            s.thing(0, free + 1);
            Due.is("safe", s.safe(0), due[free]);
        }
        String heard = "those ahead of the ECHO, if it is HEARD by its own CLICK;";
        ClickStreet s = Edge.of("Promise 28", heard, "not HEARD: nothing is certain");
        s.walker(1, 0, 2);
        s.thing(0, 7);
        s.habit(0, 5, 19, 0);
        Due.is("19 - 14", s.safe(0), 0);
        s.habit(0, 5, 20, 0);
        Due.is("20 - 14", s.safe(0), 3);
        s = Edge.of("Promise 28", heard, "masked");
        s.walker(1, 0, 2);
        s.thing(0, 4);
        s.air(1, 24);
        Due.is("24 by 24", s.safe(0), 0);
        s.air(1, 23);
        Due.is("24 by 23", s.safe(0), 2);
        s = Edge.of("Promise 28", heard, "no ECHO: nothing is certain");
        s.walker(1, 0, 2);
        Due.is("safe", s.safe(0), 0);
        s = Edge.of("Promise 28", heard, "in the SIDE that is FACED");
        s.walker(1, 0, 2);
        s.thing(0, 4);
        s.thing(0, 16 * 7);
        Due.is("FACING 2", s.safe(0), 2);
        s.face(0, 4);
        Due.is("FACING 4", s.safe(0), 3);
        s.face(0, 3);
        Due.is("FACING 3", s.safe(0), 0);
        s = Edge.of("Promise 28", heard, "ahead of what the HEAD holds");
        s.walker(1, 0, 2);
        s.thing(0, 12);
        s.click(0);
        s.thing(0, 2);
        Due.is("11 HELD FREE, an ECHO at 2", s.safe(0), 1);
        s = Edge.of("Promise 28", heard, "at 1 YARD, ahead of what the HEAD holds");
        s.walker(1, 0, 2);
        s.thing(0, 12);
        s.click(0);
        s.thing(0, 1);
        Due.is("masked: 11 HELD FREE", s.safe(0), 4);
        s.air(1, 5);
        Due.is("HEARD: none is free", s.safe(0), 0);
        s = Edge.of("Promise 28", heard, "one that is no CLICKING one, too");
        s.walker(3, 0, 2);
        s.thing(0, 4);
        Due.is("safe", s.safe(0), 2);
        s = Edge.of("Promise 28", heard, "nothing changes");
        s.walker(1, 0, 2);
        s.thing(0, 4);
        s.safe(0);
        Due.is("CLICKS", s.walkerIs(0, 8), 0);
        Due.is("UNKNOWN", s.heads(0, 0), 192);
        int[] bad = {-1, 1, 8, MAX, MIN};
        for (int walker : bad) {
            s = Edge.of("Promise 28", "BEYOND.", "WALKER " + walker);
            s.walker(0, 5, 0);
            Due.is("safe", s.safe(walker), Due.BEYOND);
        }
    }

    private static void safeByHead() {
        String head = "else CELLS HELD FREE in its HEAD one behind the other (15 at most).";
        int[] due = {0, 1, 1, 2, 2, 2, 3, 3, 3, 3, 4, 4};
        for (int free = 1; free < 12; free++) {
            ClickStreet s = Edge.of("Promise 28", head, free + " CELLS");
            s.walker(1, 0, 2);
            s.thing(0, free + 1);
            s.click(0);
            s.away(0);
            Due.is("safe", s.safe(0), due[free]);
        }
        ClickStreet s = Edge.of("Promise 28", head, "the nearest is UNKNOWN");
        s.walker(1, 0, 2);
        s.thing(0, 12);
        s.click(0);
        s.thing(0, 1);
        s.air(1, 0);
        s.click(0);
        s.away(0);
        s.away(1);
        Due.is("1", s.head(0, 1, 2), 0);
        Due.is("2", s.head(0, 2, 2), 1);
        Due.is("safe", s.safe(0), 0);
        s = Edge.of("Promise 28", head, "one between is HELD FULL");
        s.walker(1, 0, 2);
        s.thing(0, 12);
        s.click(0);
        s.thing(0, 4);
        s.click(0);
        s.click(0);
        s.away(0);
        s.away(1);
        Due.is("3 CELLS", s.safe(0), 2);
        s = Edge.of("Promise 28", head, "one between is UNKNOWN");
        s.walker(1, 0, 2);
        s.thing(0, 12);
        s.click(0);
        s.thing(0, 7);
        s.click(0);
        s.away(0);
        s.away(1);
        Due.is("7", s.head(0, 7, 2), 0);
        Due.is("6 CELLS", s.safe(0), 3);
        s = Edge.of("Promise 28", head, "to the edge");
        s.walker(1, 12, 6);
        s.thing(0, 0);
        s.click(0);
        s.away(0);
        s.face(0, 2);
        Due.is("none to the east", s.safe(0), 0);
        s.face(0, 6);
        Due.is("11 to the west", s.safe(0), 4);
        s = Edge.of("Promise 28", head, "when the ECHO is not HEARD");
        s.walker(1, 0, 2);
        s.thing(0, 12);
        s.click(0);
        s.habit(0, 5, 1, 0);
        Due.is("11 CELLS", s.safe(0), 4);
        fifteen(head);
    }

    /** All 15 CELLS of a row: (15, 5) is told from the south, the others from within the row. */
    private static void fifteen(String head) {
        ClickStreet s = Edge.of("Promise 28", head, "14, and 15 to the edge of the street");
        s.walker(1, 95, 6);
        s.thing(0, 83);
        s.click(0);
        s.away(0);
        Due.text(s, 2, "0");
        s.goes(0, true);
        s.tenths(10);
        s.thing(0, 80);
        s.click(0);
        s.click(0);
        s.away(1);
        s.tenths(5);
        Due.is("at the edge", s.walkerIs(0, 1), 80);
        s.face(0, 2);
        Due.is("14, then UNKNOWN", s.safe(0), 4);
        Due.is("95", s.head(0, 95, 2), 0);
        s.face(0, 4);
        s.tenths(2);
        s.face(0, 2);
        s.tenths(15);
        s.face(0, 0);
        s.thing(0, 63);
        s.click(0);
        s.away(2);
        Due.is("95", s.head(0, 95, 2), 1);
        s.face(0, 6);
        s.tenths(15);
        s.face(0, 0);
        s.tenths(2);
        s.face(0, 2);
        Due.is("back", s.walkerIs(0, 1), 80);
        Due.is("15", s.safe(0), 5);
    }
}
