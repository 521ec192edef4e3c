import java.util.Random;

/** Promises 25 and 31: where to click so that most is told, and the fewest posts to put. */
public final class PlaceTest {
    private static final int[] EAST = {0, 1, 1, 1, 0, -1, -1, -1};
    private static final int[] SOUTH = {-1, -1, 0, 1, 1, 1, 0, -1};

    public static void main(String[] args) {
        spotErrors();
        spots();
        spotsByTrying();
        postErrors();
        posts();
        postsByTrying();
        Due.end("PlaceTest");
    }

    private static void spotErrors() {
        ClickStreet s = new ClickStreet();
        s.walker(1, 0, 0);
        s.thing(0, 2);
        Due.is("missing", s.spots(0, 0, 1, 0), Due.NONE);
        Due.is("BEYOND ahead of NONE: k 0", s.spots(0, 0, 0, 0), Due.BEYOND);
        Due.is("k 4", s.spots(0, 0, 4, 0), Due.BEYOND);
        Due.is("what 2", s.spots(0, 0, 1, 2), Due.BEYOND);
        Due.is("what -1", s.spots(0, 0, 1, -1), Due.BEYOND);
        Due.is("SHEET 4", s.spots(0, 4, 1, 0), Due.BEYOND);
        Due.is("SHEET -1", s.spots(0, -1, 1, 0), Due.BEYOND);
        Due.is("WALKER 1", s.spots(1, 0, 1, 0), Due.BEYOND);
        Due.is("WALKER -1", s.spots(-1, 0, 1, 0), Due.BEYOND);
        Due.sheet(s, 0, 16);
        Due.is("no numbers", s.spots(0, 0, 1, 0), Due.KIND);
        Due.sheet(s, 0, 16, 11, 12, 13, 14, 15, 16, 17, 18, 19);
        Due.is("9 numbers", s.spots(0, 0, 1, 0), Due.KIND);
        Due.sheet(s, 0, 16, 11, 12, 13, 14, 15, 16, 17, 18);
        Due.is("8 numbers", s.spots(0, 0, 3, 1) > 0 ? 1 : 0, 1);
        Due.sheet(s, 0, 16, 11, 192);
        Due.is("192", s.spots(0, 0, 1, 0), Due.KIND);
        Due.sheet(s, 0, 16, 11, -1);
        Due.is("-1", s.spots(0, 0, 1, 0), Due.KIND);
        Due.sheet(s, 0, 32, 11, 13, 11);
        Due.is("two alike", s.spots(0, 0, 1, 0), Due.KIND);
        Due.sheet(s, 0, 32, 11, 11);
        Due.is("two alike, side by side", s.spots(0, 0, 1, 0), Due.KIND);
        Due.sheet(s, 0, 32, 10, 13, 11, 11);
        Due.is("two alike, the last", s.spots(0, 0, 1, 0), Due.KIND);
        Due.sheet(s, 0, 8, 0, 2, 11);
        Due.is("one is FREE", s.spots(0, 0, 1, 1), 4);
        Due.is("two are not", s.spots(0, 0, 2, 1), Due.STATE);
        Due.sheet(s, 0, 8, 0, 2);
        Due.is("none is: there is a walker, a thing", s.spots(0, 0, 1, 1), Due.STATE);
    }

    private static void spots() {
        ClickStreet s = new ClickStreet();
        s.walker(1, Due.cell(0, 5), 0);
        s.thing(0, Due.cell(6, 0));
        s.thing(0, Due.cell(6, 9));
        // from (6, 4): 3 and the wall, 4 and the wall; from (6, 5) one wall and the walker, which is not there
        Due.sheet(s, 0, 16, Due.cell(15, 11), Due.cell(6, 5), Due.cell(6, 4), Due.cell(6, 3));
        Due.is("one", s.spots(0, 0, 1, 0), 9);
        Due.is("one: the least bits", s.spots(0, 0, 1, 1), 2);
        // (6, 5) tells (6, 1..4), (6, 6..8) and the walls; (6, 4) tells (6, 5) as well
        Due.is("two", s.spots(0, 0, 2, 0), 10);
        Due.is("two: the least bits", s.spots(0, 0, 2, 1), 6);
        Due.is("three", s.spots(0, 0, 3, 1), 7);
        Due.is("nothing was clicked", s.count(8), 0);
        Due.is("nothing is kept", s.heads(0, 0), 192);
        s.habit(0, 5, 1, 0);
        Due.is("too weak: no cells", s.spots(0, 0, 2, 0), 0);
        Due.is("too weak: the least bits", s.spots(0, 0, 2, 1), 3);
        s.habit(0, 5, 60, 0);
        s.walker(4, Due.cell(9, 5), 0);
        Due.sheet(s, 0, 16, Due.cell(8, 5), Due.cell(6, 5));
        Due.is("another walker is heard", s.spots(0, 0, 1, 0), 12);
        Due.is("no REACH", s.spots(1, 0, 1, 0), 0);
        Due.is("no REACH: the least bits", s.spots(1, 0, 2, 1), 3);

        s = new ClickStreet();
        s.walker(1, 100, 0);
        s.thing(0, 0);
        s.thing(0, 63);
        Due.sheet(s, 0, 16, Due.cell(0, 3), Due.cell(12, 3));
        Due.is("CELLS 0 and 63", s.spots(0, 0, 2, 0), 6);
    }

    /** A street with things, walkers and laws at random, and walker 0 in it. */
    private static void fill(ClickStreet s, Random random, int things) {
        s.walker(random.nextInt(8), random.nextInt(192), random.nextInt(8));
        s.walker(random.nextInt(8), random.nextInt(192), random.nextInt(8));
        for (int n = things; n > 0; n--) {
            s.thing(random.nextInt(5), random.nextInt(192));
        }
        for (int kind = 0; kind < 5; kind++) {
            s.kind(kind, 0, 30 + random.nextInt(70));
            s.kind(kind, 1, random.nextInt(6));
        }
        s.air(1, random.nextInt(14));
        s.air(2, random.nextInt(2));
        s.habit(0, 3 + random.nextInt(4), 20 + random.nextInt(60), 0);
    }

    /** The same street without walker 0, that is put elsewhere with an empty head. */
    private static ClickStreet withWalkerAt(ClickStreet s, int cell) {
        ClickStreet other = new ClickStreet();
        other.walker(s.walkerIs(0, 0), cell, 0);
        for (int thing = 0; thing < s.count(1); thing++) {
            other.thing(s.thingIs(thing, 0), s.thingIs(thing, 1));
        }
        for (int i = 1; i < s.count(2); i++) {
            other.walker(s.walkerIs(i, 0), s.walkerIs(i, 1), 0);
        }
        copyLaws(s, other);
        other.habit(0, s.walkerIs(0, 3), s.walkerIs(0, 4), 0);
        return other;
    }

    private static void copyLaws(ClickStreet s, ClickStreet other) {
        for (int what = 0; what < 2; what++) {
            for (int kind = 0; kind < 5; kind++) {
                int v = s.kind(kind, what, 0);
                s.kind(kind, what, v);
                other.kind(kind, what, v);
            }
        }
        for (int what = 0; what < 3; what++) {
            int v = s.air(what, 0);
            s.air(what, v);
            other.air(what, v);
        }
    }

    private static int[] someCells(Random random, int n) {
        int[] cells = new int[n];
        for (int i = 0; i < n; i++) {
            boolean isNew;
            do {
                cells[i] = random.nextInt(192);
                isNew = true;
                for (int j = 0; j < i; j++) {
                    isNew &= cells[j] != cells[i];
                }
            } while (!isNew);
        }
        return cells;
    }

    private static void spotsByTrying() {
        Random random = new Random(21);
        for (int run = 0; run < 250; run++) {
            ClickStreet s = new ClickStreet();
            fill(s, random, random.nextInt(39));
            int[] cells = someCells(random, 1 + random.nextInt(8));
            boolean[] isKnown = new boolean[192];
            for (int n = random.nextInt(3); n > 0; n--) {
                s.click(0);
            }
            boolean[][] told = new boolean[cells.length][192];
            int free = 0;
            for (int i = 0; i < cells.length; i++) {
                if (s.at(cells[i]) == -1) {
                    free |= 1 << i;
                    ClickStreet other = withWalkerAt(s, cells[i]);
                    if (other.click(0) == Due.KIND) {
                        tellByEchoes(other, told[i]);
                        continue;
                    }
                    for (int cell = 0; cell < 192; cell++) {
                        told[i][cell] = other.head(0, cell, 2) != 0;
                    }
                }
            }
            for (int cell = 0; cell < 192; cell++) {
                isKnown[cell] = s.head(0, cell, 2) != 0;
            }
            Due.sheet(s, 0, 16, cells);
            for (int k = 1; k <= 3; k++) {
                int most = Due.STATE;
                int bits = Due.STATE;
                for (int b = 0; b < 1 << cells.length; b++) {
                    if (Integer.bitCount(b) == k && (b & free) == b && count(b, told, isKnown) > most) {
                        most = count(b, told, isKnown);
                        bits = b;
                    }
                }
                Due.is("spots, run " + run, s.spots(0, 0, k, 0), most);
                Due.is("spots, bits, run " + run, s.spots(0, 0, k, 1), bits);
            }
        }
    }

    private static void tellByEchoes(ClickStreet s, boolean[] told) {
        int click = 100 * s.walkerIs(0, 3) + s.walkerIs(0, 4);
        for (int side = 0; side < 8; side++) {
            if (s.echo(0, click, side, 5) == 1) {
                int yards = s.echo(0, click, side, 0);
                for (int y = 1; y <= yards; y++) {
                    told[s.walkerIs(0, 1) + y * (EAST[side] + 16 * SOUTH[side])] = true;
                }
            }
        }
    }

    private static int count(int bits, boolean[][] told, boolean[] isKnown) {
        int count = 0;
        for (int cell = 0; cell < 192; cell++) {
            boolean is = false;
            for (int i = 0; i < told.length; i++) {
                is |= (bits >> i & 1) == 1 && told[i][cell];
            }
            if (is && !isKnown[cell]) {
                count++;
            }
        }
        return count;
    }

    private static void postErrors() {
        ClickStreet s = new ClickStreet();
        s.walker(1, 0, 0);
        Due.sheet(s, 0, 16, 20, 25);
        Due.sheet(s, 1, 16, 22);
        Due.is("it can be", s.posts(0, 0, 1, 0), 1);
        Due.is("WALKER 1", s.posts(1, 0, 1, 0), Due.BEYOND);
        Due.is("WALKER -1", s.posts(-1, 0, 1, 0), Due.BEYOND);
        Due.is("SHEET 4", s.posts(0, 4, 1, 0), Due.BEYOND);
        Due.is("SHEET -1", s.posts(0, -1, 1, 0), Due.BEYOND);
        Due.is("other 4", s.posts(0, 0, 4, 0), Due.BEYOND);
        Due.is("other -1", s.posts(0, 0, -1, 0), Due.BEYOND);
        Due.is("what 2", s.posts(0, 0, 1, 2), Due.BEYOND);
        Due.is("what -1", s.posts(0, 0, 1, -1), Due.BEYOND);
        Due.is("the first is missing", s.posts(0, 2, 1, 0), Due.NONE);
        Due.is("the other is missing", s.posts(0, 0, 2, 0), Due.NONE);
        s.sheet(3, 8, 0);
        Due.is("NONE ahead of KIND", s.posts(0, 3, 2, 0), Due.NONE);
        Due.is("the first has no numbers", s.posts(0, 3, 1, 0), Due.KIND);
        Due.is("the other has no numbers", s.posts(0, 0, 3, 0), Due.KIND);
        s.sheet(3, 8, 9);
        Due.is("the first has 9", s.posts(0, 3, 1, 0), Due.KIND);
        Due.is("the other has 9", s.posts(0, 0, 3, 0), Due.KIND);
        Due.sheet(s, 3, 16, 20, 192);
        Due.is("the first has no CELL", s.posts(0, 3, 1, 0), Due.KIND);
        Due.is("the other has no CELL", s.posts(0, 0, 3, 0), Due.KIND);
        Due.sheet(s, 3, 32, 25, 25);
        Due.is("two alike are no fault", s.posts(0, 3, 1, 0), 1);
        Due.is("two alike: the least bits", s.posts(0, 3, 1, 1), 1);
        Due.is("two alike on the other", s.posts(0, 0, 3, 0), 1);
        Due.is("on the same SHEET: none alone", s.posts(0, 0, 0, 0), 2);
        Due.is("one CELL alone", s.posts(0, 1, 1, 0), Due.STATE);
        Due.is("nothing was put", s.count(1), 0);
    }

    private static void posts() {
        ClickStreet s = new ClickStreet();
        s.walker(1, 21, 0);
        Due.sheet(s, 0, 16, 20, 24, 26);
        Due.sheet(s, 1, 16, 22, 28);
        // 22 hears 20 (its own walker between is no hindrance), 24, 26; 28 hears all of them
        Due.is("one", s.posts(0, 0, 1, 0), 1);
        Due.is("the least bits", s.posts(0, 0, 1, 1), 1);
        s.thing(2, 23);
        // a thing at 23: 22 hears 20 alone, 28 hears 24 and 26
        Due.is("two", s.posts(0, 0, 1, 0), 2);
        Due.is("the least bits of two", s.posts(0, 0, 1, 1), 3);
        s.walker(0, 24, 0);
        Due.is("a CELL that is not FREE", s.posts(0, 0, 1, 1), 5);
        s.walker(0, 27, 0);
        Due.is("another walker between", s.posts(0, 0, 1, 1), Due.STATE);
        Due.sheet(s, 1, 16, 22, Due.cell(6, 3));
        Due.is("straight, and aslant", s.posts(0, 0, 1, 1), 1);
        s.kind(1, 1, 6);
        Due.is("POLES are too sharp", s.posts(0, 0, 1, 1), Due.STATE);
        s.habit(0, 6, 60, 0);
        Due.is("for its own PITCH", s.posts(0, 0, 1, 1), 1);
        s.air(1, 16);
        Due.is("masked", s.posts(0, 0, 1, 1), Due.STATE);

        ClickStreet own = new ClickStreet();
        own.walker(1, 21, 0);
        Due.sheet(own, 0, 16, 21);
        Due.sheet(own, 1, 16, 25);
        Due.is("where the walker is now", own.posts(0, 0, 1, 0), 1);
        own.thing(0, 25);
        Due.is("from where a thing is", own.posts(0, 0, 1, 0), 1);
        own.thing(1, 20);
        Due.sheet(own, 0, 16, 20);
        Due.is("where a POLE is", own.posts(0, 0, 1, 0), Due.STATE);
        Due.sheet(own, 0, 16, 25 - 13);
        Due.is("in no SIDE", own.posts(0, 0, 1, 0), Due.STATE);
        Due.sheet(own, 0, 16, 25 - 17);
        Due.is("aslant, masked", own.posts(0, 0, 1, 1), Due.STATE);
        Due.sheet(own, 0, 16, 25 - 17, 25 + 15 * 9);
        Due.is("aslant, masked; aslant, far", own.posts(0, 0, 1, 1), 2);
        own.walker(5, 100, 0);
        Due.is("beyond REACH 6", own.posts(1, 0, 1, 1), Due.STATE);
        Due.sheet(own, 0, 16, 25 - 17, 25 + 15 * 5);
        Due.is("where another walker is", own.posts(0, 0, 1, 1), Due.STATE);
        Due.is("where that walker is", own.posts(1, 0, 1, 1), 2);
    }

    private static void postsByTrying() {
        Random random = new Random(22);
        int right = 0;
        for (int run = 0; run < 600; run++) {
            ClickStreet s = new ClickStreet();
            fill(s, random, random.nextInt(25));
            int[] cells = new int[1 + random.nextInt(8)];
            int[] froms = new int[1 + random.nextInt(5)];
            for (int i = 0; i < cells.length; i++) {
                cells[i] = random.nextInt(192);
            }
            for (int j = 0; j < froms.length; j++) {
                // mostly in a side of one of the cells
                int cell = cells[random.nextInt(cells.length)];
                int side = random.nextInt(8);
                int yards = 1 + random.nextInt(5);
                int x = cell % 16 + yards * EAST[side];
                int y = cell / 16 + yards * SOUTH[side];
                froms[j] = x < 0 || x > 15 || y < 0 || y > 11 ? random.nextInt(192) : 16 * y + x;
                int there = s.at(froms[j]);
                if (there != -1 && there != 100) {
                    froms[j] = s.walkerIs(0, 1);
                }
            }
            int[] heard = new int[froms.length];
            for (int j = 0; j < froms.length; j++) {
                for (int i = 0; i < cells.length; i++) {
                    if (hearsPole(s, froms[j], cells[i])) {
                        heard[j] |= 1 << i;
                    }
                }
            }
            int best = Due.STATE;
            for (int bits = 0; bits < 1 << cells.length; bits++) {
                boolean serves = true;
                for (int has : heard) {
                    serves &= (has & bits) != 0;
                }
                if (serves && (best < 0 || Integer.bitCount(bits) < Integer.bitCount(best))) {
                    best = bits;
                }
            }
            right += best >= 0 ? 1 : 0;
            Due.sheet(s, 0, 16, cells);
            Due.sheet(s, 1, 16, froms);
            Due.is("posts, run " + run, s.posts(0, 0, 1, 0), best < 0 ? best : Integer.bitCount(best));
            Due.is("posts, bits, run " + run, s.posts(0, 0, 1, 1), best);
        }
        Due.is("streets that can be served", right > 50 ? 1 : 0, 1);
    }

    /** Puts the pole, and the walker, and asks for the echo. */
    private static boolean hearsPole(ClickStreet s, int from, int cell) {
        ClickStreet other = withWalkerAt(s, from);
        int pole = other.thing(1, cell);
        if (pole < 0) {
            return false;
        }
        int click = 100 * other.walkerIs(0, 3) + other.walkerIs(0, 4);
        for (int side = 0; side < 8; side++) {
            int yards = other.echo(0, click, side, 0);
            if (yards > 0 && from + yards * (EAST[side] + 16 * SOUTH[side]) == cell) {
                return other.echo(0, click, side, 5) == 1;
            }
        }
        return false;
    }
}
