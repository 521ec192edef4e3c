/** Promises 25 and 31: where to click so that most is told, and the fewest posts to put. */
public final class EdgePlaceTest {
    private static final int MAX = Integer.MAX_VALUE;
    private static final int MIN = Integer.MIN_VALUE;
    private static final String SPOTS = "SPOTS: of the CELLS on a SHEET (1 to 8 numbers) that are FREE, k (1 .. 3) in each of"
        + " which the WALKER, were it there (and not where it is), would CLICK: so that the most UNKNOWN CELLS of its HEAD would"
        + " no more be so by one of these alone: 0 how many, 1 the places of these on the SHEET, as bits; of several the least"
        + " bits.";
    private static final String POSTS = "The fewest of the CELLS on a SHEET in which POLES would have to be put so that from each"
        + " CELL on another SHEET one of these would be HEARD by a CLICK of a WALKER, were it there:";
    private static final String WHERE = "in a SIDE within REACH, all CELLS between, and its own, FREE but for that WALKER (other"
        + " POLES that are put, and other CELLS of that SHEET, are no hindrance):";

    public static void main(String[] args) {
        spotsOnSheets();
        spotsThatAreFree();
        spotsThatTell();
        spotsTies();
        spotsRefused();
        spotsOfNoCells();
        postsOnSheets();
        postsHeard();
        postsHindered();
        postsTies();
        postsRefused();
        postsOfNoCells();
        Due.end("EdgePlaceTest");
    }

    private static void spotsAre(ClickStreet s, int walker, int k, int many, int bits) {
        Due.is("how many", s.spots(walker, 0, k, 0), many);
        Due.is("bits", s.spots(walker, 0, k, 1), bits);
    }

    private static void spotsOnSheets() {
        ClickStreet s = Edge.of("Promise 25", SPOTS, "1 number");
        s.walker(1, 0, 0);
        s.thing(0, 100);
        Due.sheet(s, 0, 8, 97);
        spotsAre(s, 0, 1, 3, 1);
        s = Edge.of("Promise 25", SPOTS, "8 numbers, the last is best");
        s.walker(1, 0, 0);
        s.thing(0, 191);
        Due.sheet(s, 0, 16, 20, 21, 22, 23, 24, 25, 26, 180);
        spotsAre(s, 0, 1, 11, 128);
        s = Edge.of("Promise 25", SPOTS, "k 1, 2, 3");
        s.walker(1, 0, 0);
        s.thing(0, 21);
        s.thing(0, 89);
        s.thing(0, 158);
        // they tell 2, none, 3, 4
        Due.sheet(s, 0, 16, 19, 176, 86, 154);
        spotsAre(s, 0, 1, 4, 8);
        spotsAre(s, 0, 2, 7, 12);
        spotsAre(s, 0, 3, 9, 13);
        s = Edge.of("Promise 25", SPOTS, "numbers of 32 bits");
        s.walker(1, 0, 0);
        s.thing(0, 100);
        Due.sheet(s, 0, 32, 97, 191);
        spotsAre(s, 0, 1, 3, 1);
    }

    private static void spotsThatAreFree() {
        ClickStreet s = Edge.of("Promise 25", SPOTS, "one that holds a THING is none");
        s.walker(1, 0, 0);
        s.thing(0, 100);
        s.thing(0, 97);
        Due.sheet(s, 0, 16, 97, 98);
        spotsAre(s, 0, 1, 2, 2);
        s = Edge.of("Promise 25", SPOTS, "one that holds another WALKER is none");
        s.walker(1, 0, 0);
        s.thing(0, 100);
        s.walker(0, 97, 0);
        Due.sheet(s, 0, 16, 97, 98);
        spotsAre(s, 0, 1, 2, 2);
        s = Edge.of("Promise 25", SPOTS, "its own CELL is not FREE");
        s.walker(1, 97, 0);
        s.thing(0, 100);
        Due.sheet(s, 0, 16, 97, 98);
        spotsAre(s, 0, 1, 2, 2);
        s = Edge.of("Promise 25", SPOTS, "and not where it is: it gives no ECHO");
        s.walker(1, 100, 0);
        Due.sheet(s, 0, 16, 97);
        spotsAre(s, 0, 1, 0, 1);
        s = Edge.of("Promise 25", SPOTS, "and not where it is: it hides nothing");
        s.walker(1, 100, 0);
        s.thing(0, 103);
        Due.sheet(s, 0, 16, 97);
        spotsAre(s, 0, 1, 6, 1);
        s = Edge.of("Promise 25", SPOTS, "another WALKER gives an ECHO");
        s.walker(1, 0, 0);
        s.walker(4, 100, 0);
        Due.sheet(s, 0, 16, 97);
        spotsAre(s, 0, 1, 3, 1);
    }

    private static void spotsThatTell() {
        ClickStreet s = Edge.of("Promise 25", SPOTS, "what is known counts no more");
        s.walker(1, 96, 0);
        s.thing(0, 100);
        s.click(0);
        Due.sheet(s, 0, 16, 98);
        spotsAre(s, 0, 1, 0, 1);
        s = Edge.of("Promise 25", SPOTS, "what is held as much YES as NO counts");
        s.walker(1, 96, 0);
        s.thing(0, 100);
        s.click(0);
        s.thing(0, 99);
        s.click(0);
        Due.is("as much", s.head(0, 99, 2), 0);
        Due.sheet(s, 0, 16, 97);
        spotsAre(s, 0, 1, 1, 1);
        s = Edge.of("Promise 25", SPOTS, "99 and 99 would stay so");
        s.walker(1, 96, 0);
        s.thing(0, 100);
        for (int i = 0; i < 99; i++) {
            s.click(0);
        }
        s.thing(0, 98);
        for (int i = 0; i < 99; i++) {
            s.click(0);
        }
        Due.is("as much", s.head(0, 98, 2), 0);
        Due.is("YES", s.head(0, 98, 0), 99);
        Due.sheet(s, 0, 16, 146);
        spotsAre(s, 0, 1, 2, 1);
        s = Edge.of("Promise 25", SPOTS, "by one of these alone: FREE by one, FULL by the other");
        s.walker(1, 0, 0);
        s.walker(4, 100, 0);
        Due.sheet(s, 0, 16, 98, 102);
        spotsAre(s, 0, 2, 3, 3);
        s = Edge.of("Promise 25", SPOTS, "nothing is HEARD");
        s.walker(1, 0, 0);
        s.thing(0, 100);
        s.habit(0, 5, 5, 0);
        Due.sheet(s, 0, 16, 97, 98, 99);
        spotsAre(s, 0, 3, 0, 7);
        s = Edge.of("Promise 25", SPOTS, "one that is no CLICKING one, within REACH");
        s.walker(0, 0, 0);
        s.thing(0, 100);
        Due.sheet(s, 0, 16, 96, 97);
        spotsAre(s, 0, 1, 3, 2);
        s = Edge.of("Promise 25", SPOTS, "REACH 0");
        s.walker(4, 0, 0);
        s.thing(0, 100);
        Due.sheet(s, 0, 16, 97);
        spotsAre(s, 0, 1, 0, 1);
        int[] round = {-16, -15, 1, 17, 16, 15, -1, -17};
        for (int side = 0; side < 8; side++) {
            s = Edge.of("Promise 25", SPOTS, "an ECHO from SIDE " + side);
            s.walker(1, 0, 0);
            s.thing(0, 85 + 3 * round[side]);
            Due.sheet(s, 0, 16, 175, 85);
            spotsAre(s, 0, 1, 3, 2);
        }
        for (int cell = 0; cell < 192; cell += 16) {
            s = Edge.of("Promise 25", SPOTS, "CELLS from " + cell + " on");
            s.walker(1, 190 - cell, 0);
            s.thing(0, cell);
            s.thing(0, cell + 15);
            Due.sheet(s, 0, 16, cell + 4, cell + 8);
            spotsAre(s, 0, 1, 15, 1);
        }
        s = Edge.of("Promise 25", SPOTS, "CELLS 0, 63, 64, 127, 128, 191 count each");
        s.walker(1, 89, 0);
        int[] ends = {0, 63, 64, 127, 128, 191};
        for (int cell : ends) {
            s.thing(0, cell);
        }
        Due.sheet(s, 0, 16, 32, 95, 160, 159);
        // 32: 16, 0, 48, 64; 95: 79, 63, 111, 127; 160: 144, 128; 159: 175, 191, 143, 127; in rows nothing stands
        spotsAre(s, 0, 1, 4, 1);
        spotsAre(s, 0, 2, 8, 3);
        spotsAre(s, 0, 3, 11, 11);
        s = Edge.of("Promise 25", SPOTS, "what is behind its last number does not count");
        s.walker(1, 190, 0);
        s.thing(0, 4);
        s.thing(0, 100);
        Due.sheet(s, 0, 16, 97, 0, 0, 0);
        Due.sheet(s, 0, 16, 97);
        spotsAre(s, 0, 1, 3, 1);
        Due.is("no second", s.spots(0, 0, 2, 0), Due.STATE);
        s = Edge.of("Promise 25", SPOTS, "again, as it is now");
        s.walker(1, 0, 0);
        s.thing(0, 100);
        s.thing(0, 60);
        s.thing(0, 190);
        Due.sheet(s, 0, 16, 97, 57, 187);
        spotsAre(s, 0, 3, 9, 7);
        s.away(0);
        s.away(1);
        s.away(2);
        spotsAre(s, 0, 3, 0, 7);
        s = Edge.of("Promise 25", SPOTS, "nothing changes");
        s.walker(1, 0, 0);
        s.thing(0, 100);
        Due.sheet(s, 0, 16, 97);
        s.spots(0, 0, 1, 0);
        Due.is("CLICKS", s.count(8), 0);
        Due.is("UNKNOWN", s.heads(0, 0), 192);
        Due.is("its CELL", s.walkerIs(0, 1), 0);
        Due.is("at", s.at(97), -1);
    }

    private static void spotsTies() {
        ClickStreet s = Edge.of("Promise 25", SPOTS, "of several the least bits: 1");
        s.walker(1, 0, 0);
        Due.sheet(s, 0, 16, 50, 60, 70, 80, 90, 100, 110, 120);
        spotsAre(s, 0, 1, 0, 1);
        spotsAre(s, 0, 2, 0, 3);
        spotsAre(s, 0, 3, 0, 7);
        s = Edge.of("Promise 25", SPOTS, "of several the least bits: not the first places");
        s.walker(1, 0, 0);
        s.thing(0, 100);
        s.thing(0, 90);
        // 97 and 87 tell three CELLS each, 50 none; 6 is the least of 6 (97, 87) alone
        Due.sheet(s, 0, 16, 50, 97, 87, 61);
        spotsAre(s, 0, 1, 3, 2);
        spotsAre(s, 0, 2, 6, 6);
        spotsAre(s, 0, 3, 6, 7);
    }

    private static void spotsRefused() {
        int[][] bad = {{-1, 0, 1, 0}, {1, 0, 1, 0}, {0, -1, 1, 0}, {0, 4, 1, 0}, {0, 0, 0, 0}, {0, 0, 4, 0},
            {0, 0, 1, -1}, {0, 0, 1, 2}, {MAX, 0, 1, 0}, {0, MIN, 1, 0}, {0, 0, MIN, 0}, {0, 0, MAX, 0}, {0, 0, 1, MAX}};
        for (int[] a : bad) {
            ClickStreet s = Edge.of("Promise 25", "BEYOND: WALKER, SHEET, k, what.",
                a[0] + ", " + a[1] + ", " + a[2] + ", " + a[3]);
            s.walker(1, 0, 0);
            Due.sheet(s, 0, 16, 50, 51, 52, 53);
            Due.is("spots", s.spots(a[0], a[1], a[2], a[3]), Due.BEYOND);
        }
        ClickStreet s = Edge.of("Promise 25", "NONE: it is missing.", "at first, and again");
        s.walker(1, 0, 0);
        Due.is("at first", s.spots(0, 0, 1, 0), Due.NONE);
        Due.sheet(s, 0, 16, 50);
        s.sheet(0, 0, 7);
        Due.is("again", s.spots(0, 0, 1, 0), Due.NONE);
        String state = "STATE: fewer than k are FREE.";
        for (int k = 1; k <= 3; k++) {
            s = Edge.of("Promise 25", state, "k " + k);
            s.walker(1, 0, 0);
            s.thing(0, 40);
            Due.sheet(s, 0, 16, 0, 40, 50, 51, 52);
            Due.is("k are FREE", s.spots(0, 0, k, 0), 0);
            for (int i = k - 1; i < 3; i++) {
                s.thing(0, 50 + i);
            }
            Due.is("k - 1 are FREE", s.spots(0, 0, k, 0), Due.STATE);
            Due.is("k - 1 are FREE, bits", s.spots(0, 0, k, 1), Due.STATE);
        }
        s = Edge.of("Promise 25", state, "fewer numbers than k");
        s.walker(1, 0, 0);
        Due.sheet(s, 0, 16, 50, 51);
        Due.is("3 of 2", s.spots(0, 0, 3, 0), Due.STATE);
    }

    private static void spotsOfNoCells() {
        String kind = "KIND: it has no numbers, or more than 8, or one is no CELL, or two are one.";
        int[][] bad = {{}, {50, 51, 52, 53, 54, 55, 56, 57, 58}, new int[24], {-1}, {192}, {50, 192}, {192, 50},
            {50, 51, 52, 53, 54, 55, 56, 192}, {50, 50}, {50, 51, 50}, {50, 51, 51}, {50, 51, 52, 53, 54, 55, 56, 50},
            {MIN}, {MAX}};
        for (int[] cells : bad) {
            ClickStreet s = Edge.of("Promise 25", kind, java.util.Arrays.toString(cells));
            s.walker(1, 0, 0);
            Due.sheet(s, 0, 32, cells);
            Due.is("spots", s.spots(0, 0, 1, 0), Due.KIND);
        }
        ClickStreet s = Edge.of("Promise 25", kind, "not with 8, nor with 191");
        s.walker(1, 0, 0);
        Due.sheet(s, 0, 32, 50, 51, 52, 53, 54, 55, 56, 191);
        Due.is("spots", s.spots(0, 0, 1, 0), 0);
        s = Edge.of("Promise 25", kind, "not with CELL 0");
        s.walker(1, 7, 0);
        Due.sheet(s, 0, 32, 0);
        Due.is("spots", s.spots(0, 0, 1, 0), 0);
    }

    // ---- posts

    private static void postsAre(ClickStreet s, int walker, int many, int bits) {
        Due.is("how many", s.posts(walker, 0, 1, 0), many);
        Due.is("bits", s.posts(walker, 0, 1, 1), bits);
    }

    private static void postsOnSheets() {
        ClickStreet s = Edge.of("Promise 31", POSTS, "1 and 1");
        s.walker(1, 0, 0);
        Due.sheet(s, 0, 8, 50);
        Due.sheet(s, 1, 8, 53);
        postsAre(s, 0, 1, 1);
        s = Edge.of("Promise 31", POSTS, "all 8 for 8");
        s.walker(1, 0, 0);
        // each hears that beside it alone: 2 YARDS, REACH 3, all others are farther
        int[] posts = {Due.cell(0, 1), Due.cell(6, 1), Due.cell(12, 1), Due.cell(0, 5), Due.cell(6, 5), Due.cell(12, 5),
            Due.cell(0, 9), Due.cell(6, 9)};
        int[] cells = new int[8];
        for (int i = 0; i < 8; i++) {
            cells[i] = posts[i] + 2;
        }
        s.walker(3, 15, 0);
        s.walker(0, 31, 0);
        Due.sheet(s, 0, 16, posts);
        Due.sheet(s, 1, 16, cells);
        postsAre(s, 2, 8, 255);
        s = Edge.of("Promise 31", POSTS, "one for all");
        s.walker(1, 0, 0);
        Due.sheet(s, 0, 16, 20, 85, 190);
        Due.sheet(s, 1, 16, 85 - 32, 85 - 30, 85 + 2, 85 + 34, 85 + 32, 85 + 30, 85 - 2, 85 - 34);
        postsAre(s, 0, 1, 2);
        s = Edge.of("Promise 31", POSTS, "one CELL is left out");
        s.walker(1, 0, 0);
        Due.sheet(s, 0, 16, 85);
        Due.sheet(s, 1, 16, 87, 85 + 18);
        postsAre(s, 0, Due.STATE, Due.STATE);
        s = Edge.of("Promise 31", POSTS, "nothing is put, nothing is clicked");
        s.walker(1, 0, 0);
        Due.sheet(s, 0, 16, 50);
        Due.sheet(s, 1, 16, 53);
        s.posts(0, 0, 1, 0);
        Due.is("THINGS", s.count(1), 0);
        Due.is("CLICKS", s.count(8), 0);
        Due.is("at", s.at(50), -1);
    }

    private static void postsHeard() {
        int[] reach = {3, 12, 1, 6, 0, 6, 5, 10};
        for (int kind = 0; kind < 8; kind++) {
            ClickStreet s = Edge.of("Promise 31", WHERE, "REACH of KIND " + kind + ", and above");
            s.walker(kind, 0, 0);
            s.air(1, 0);
            Due.sheet(s, 0, 16, 80);
            Due.sheet(s, 1, 16, 80 + reach[kind] + 1);
            postsAre(s, 0, Due.STATE, Due.STATE);
            Due.sheet(s, 1, 16, 80 + reach[kind]);
            postsAre(s, 0, kind == 4 ? Due.STATE : 1, kind == 4 ? Due.STATE : 1);
        }
        int[] round = {-16, -15, 1, 17, 16, 15, -1, -17};
        for (int side = 0; side < 8; side++) {
            ClickStreet s = Edge.of("Promise 31", WHERE, "SIDE " + side);
            s.walker(1, 0, 0);
            Due.sheet(s, 0, 16, 85 + 3 * round[side]);
            Due.sheet(s, 1, 16, 85);
            postsAre(s, 0, 1, 1);
        }
        ClickStreet s = Edge.of("Promise 31", WHERE, "in no SIDE, round the edge, in the same CELL");
        s.walker(1, 0, 0);
        Due.sheet(s, 0, 16, 85 + 18);
        Due.sheet(s, 1, 16, 85);
        postsAre(s, 0, Due.STATE, Due.STATE);
        Due.sheet(s, 0, 16, 95);
        Due.sheet(s, 1, 16, 96);
        postsAre(s, 0, Due.STATE, Due.STATE);
        Due.sheet(s, 0, 16, 85);
        Due.sheet(s, 1, 16, 85);
        postsAre(s, 0, Due.STATE, Due.STATE);
        s = Edge.of("Promise 31", POSTS, "HEARD as a POLE, with its own PITCH and LOUDNESS");
        s.walker(1, 0, 0);
        s.kind(1, 1, 6);
        Due.sheet(s, 0, 16, 50);
        Due.sheet(s, 1, 16, 53);
        postsAre(s, 0, Due.STATE, Due.STATE);
        s.habit(0, 6, 11, 0);
        postsAre(s, 0, Due.STATE, Due.STATE);
        s.habit(0, 6, 12, 0);
        postsAre(s, 0, 1, 1);
        s = Edge.of("Promise 31", POSTS, "masked at 1 YARD, masked at 1 YARD aslant");
        s.walker(1, 0, 0);
        Due.sheet(s, 0, 16, 50);
        Due.sheet(s, 1, 16, 51);
        postsAre(s, 0, Due.STATE, Due.STATE);
        Due.sheet(s, 1, 16, 67);
        postsAre(s, 0, Due.STATE, Due.STATE);
        s.air(1, 7);
        postsAre(s, 0, 1, 1);
    }

    private static void postsHindered() {
        ClickStreet s = Edge.of("Promise 31", WHERE, "a THING between");
        s.walker(1, 0, 0);
        s.thing(2, 51);
        Due.sheet(s, 0, 16, 50);
        Due.sheet(s, 1, 16, 53);
        postsAre(s, 0, Due.STATE, Due.STATE);
        s.away(0);
        postsAre(s, 0, 1, 1);
        s = Edge.of("Promise 31", WHERE, "another WALKER between");
        s.walker(1, 0, 0);
        s.walker(1, 51, 0);
        Due.sheet(s, 0, 16, 50);
        Due.sheet(s, 1, 16, 53);
        postsAre(s, 0, Due.STATE, Due.STATE);
        Due.is("it is no hindrance for itself", s.posts(1, 0, 1, 0), 1);
        s = Edge.of("Promise 31", WHERE, "a THING in the POLE's own CELL");
        s.walker(1, 0, 0);
        s.thing(1, 50);
        Due.sheet(s, 0, 16, 50);
        Due.sheet(s, 1, 16, 53);
        postsAre(s, 0, Due.STATE, Due.STATE);
        s = Edge.of("Promise 31", WHERE, "a WALKER in the POLE's own CELL");
        s.walker(1, 0, 0);
        s.walker(1, 50, 0);
        Due.sheet(s, 0, 16, 50);
        Due.sheet(s, 1, 16, 53);
        postsAre(s, 0, Due.STATE, Due.STATE);
        postsAre(s, 1, 1, 1);
        s = Edge.of("Promise 31", WHERE, "other CELLS of that SHEET between");
        s.walker(1, 0, 0);
        Due.sheet(s, 0, 16, 50, 52, 51);
        Due.sheet(s, 1, 16, 53, 48);
        // 53 hears 50 and 51, 48 hears 50, 51, 52: one alone will do
        postsAre(s, 0, 1, 1);
        s = Edge.of("Promise 31", WHERE, "other POLES that are put between");
        s.walker(1, 0, 0);
        // 24 hears 88 alone; 89 hears 85 alone, as 88 is masked at 1 YARD, though it stands between
        Due.sheet(s, 0, 16, 88, 85);
        Due.sheet(s, 1, 16, 24, 89);
        postsAre(s, 0, 2, 3);
        s = Edge.of("Promise 31", WHERE, "again, as it is now");
        s.walker(1, 0, 0);
        Due.sheet(s, 0, 16, 50, 100);
        Due.sheet(s, 1, 16, 53);
        postsAre(s, 0, 1, 1);
        s.thing(0, 51);
        postsAre(s, 0, Due.STATE, Due.STATE);
        s = Edge.of("Promise 31", WHERE, "a THING behind the POLE");
        s.walker(1, 0, 0);
        s.thing(0, 49);
        Due.sheet(s, 0, 16, 50);
        Due.sheet(s, 1, 16, 53);
        postsAre(s, 0, 1, 1);
    }

    private static void postsTies() {
        String least = "0 how many, 1 their places on the first SHEET, as bits; of several the least bits.";
        ClickStreet s = Edge.of("Promise 31", least, "of one");
        s.walker(1, 0, 0);
        Due.sheet(s, 0, 16, 100, 50, 56);
        Due.sheet(s, 1, 16, 53);
        postsAre(s, 0, 1, 2);
        s = Edge.of("Promise 31", least, "the fewest ahead of the least bits");
        s.walker(1, 0, 0);
        // 85 serves 87, 54 serves 52, 55 serves both: 4 is above 3
        Due.sheet(s, 0, 16, 85, 54, 55);
        Due.sheet(s, 1, 16, 87, 52);
        postsAre(s, 0, 1, 4);
        s = Edge.of("Promise 31", least, "of two");
        s.walker(1, 0, 0);
        Due.sheet(s, 0, 16, 85, 86, 161, 162);
        Due.sheet(s, 1, 16, 88, 164);
        postsAre(s, 0, 2, 5);
    }

    private static void postsRefused() {
        int[][] bad = {{-1, 0, 1, 0}, {1, 0, 1, 0}, {0, -1, 1, 0}, {0, 4, 1, 0}, {0, 0, -1, 0}, {0, 0, 4, 0},
            {0, 0, 1, -1}, {0, 0, 1, 2}, {MIN, 0, 1, 0}, {0, MAX, 1, 0}, {0, 0, MIN, 0}, {0, 0, 1, MAX}};
        for (int[] a : bad) {
            ClickStreet s = Edge.of("Promise 31", "BEYOND: WALKER, SHEETS, what.",
                a[0] + ", " + a[1] + ", " + a[2] + ", " + a[3]);
            s.walker(1, 0, 0);
            Due.sheet(s, 0, 16, 50);
            Due.sheet(s, 1, 16, 53);
            Due.is("posts", s.posts(a[0], a[1], a[2], a[3]), Due.BEYOND);
        }
        ClickStreet s = Edge.of("Promise 31", "NONE: one is missing.", "the first");
        s.walker(1, 0, 0);
        Due.sheet(s, 1, 16, 53);
        Due.is("posts", s.posts(0, 0, 1, 0), Due.NONE);
        s = Edge.of("Promise 31", "NONE: one is missing.", "the other");
        s.walker(1, 0, 0);
        Due.sheet(s, 0, 16, 53);
        Due.is("posts", s.posts(0, 0, 1, 0), Due.NONE);
        s = Edge.of("Promise 31", "NONE: one is missing.", "both are the same");
        s.walker(1, 0, 0);
        Due.is("posts", s.posts(0, 0, 0, 0), Due.NONE);
        s = Edge.of("Promise 31", "STATE: it can't be.", "not even by all");
        s.walker(1, 0, 0);
        Due.sheet(s, 0, 16, 50, 51);
        Due.sheet(s, 1, 16, 53, 191);
        postsAre(s, 0, Due.STATE, Due.STATE);
        s = Edge.of("Promise 31", "STATE: it can't be.", "no REACH");
        s.walker(4, 0, 0);
        Due.sheet(s, 0, 16, 50);
        Due.sheet(s, 1, 16, 51);
        postsAre(s, 0, Due.STATE, Due.STATE);
    }

    private static void postsOfNoCells() {
        String kind = "KIND: one has no numbers, or more than 8, or one of its numbers is no CELL.";
        int[][] bad = {{}, {50, 51, 52, 53, 54, 55, 56, 57, 58}, {-1}, {192}, {50, 192}, {192, 50},
            {50, 51, 52, 53, 54, 55, 56, -1}, {MIN}, {MAX}};
        for (int[] cells : bad) {
            ClickStreet s = Edge.of("Promise 31", kind, java.util.Arrays.toString(cells));
            s.walker(1, 0, 0);
            Due.sheet(s, 0, 32, cells);
            Due.sheet(s, 1, 16, 53);
            Due.is("the first", s.posts(0, 0, 1, 0), Due.KIND);
            Due.is("the other", s.posts(0, 1, 0, 0), Due.KIND);
        }
        ClickStreet s = Edge.of("Promise 31", kind, "two that are one are no fault");
        s.walker(1, 0, 0);
        Due.sheet(s, 0, 16, 50, 50);
        Due.sheet(s, 1, 16, 53, 53);
        postsAre(s, 0, 1, 1);
        s = Edge.of("Promise 31", kind, "not with 8 and 8, CELLS 0 and 191");
        s.walker(1, 100, 0);
        Due.sheet(s, 0, 16, 0, 191, 1, 190, 2, 189, 3, 188);
        Due.sheet(s, 1, 16, 5, 186, 6, 185, 7, 184, 8, 183);
        postsAre(s, 0, 2, 3);
    }
}
