import java.util.Random;

/** Promises 26 to 28: tenths that go by, ways through what a head holds, how fast one may go. */
public final class WalkTest {
    public static void main(String[] args) {
        time();
        goOn();
        habitsByTexts();
        whatAHabitIsTold();
        turnsInATenth();
        ways();
        waysByTrying();
        speeds();
        Due.end("WalkTest");
    }

    private static void time() {
        ClickStreet s = new ClickStreet();
        Due.is("n 0", s.tenths(0), Due.BEYOND);
        Due.is("n 101", s.tenths(101), Due.BEYOND);
        Due.is("n -1", s.tenths(-1), Due.BEYOND);
        for (int i = 1; i <= 99; i++) {
            Due.is("NOW", s.tenths(100), 100 * i);
        }
        Due.is("10000", s.tenths(100), Due.STATE);
        Due.is("BEYOND ahead of STATE", s.tenths(101), Due.BEYOND);
        Due.is("9999", s.tenths(99), 9999);
        Due.is("one more", s.tenths(1), Due.STATE);
        Due.is("NOW", s.count(0), 9999);
    }

    private static void goOn() {
        ClickStreet s = new ClickStreet();
        s.walker(0, Due.cell(3, 1), 0);
        s.goes(0, true);
        s.tenths(1);
        Due.is("goes on", s.walkerIs(0, 1), Due.cell(3, 0));
        Due.is("at", s.at(Due.cell(3, 0)), 100);
        Due.is("at, left", s.at(Due.cell(3, 1)), -1);
        s.tenths(2);
        Due.is("the edge is a BUMP", s.walkerIs(0, 7), 2);
        Due.is("it stays", s.walkerIs(0, 1), Due.cell(3, 0));
        Due.is("nothing is held", s.heads(0, 0), 192);

        // without a TEXT: a BUMP makes the CELL FULL at 1, then it FACES the next SIDE
        s = new ClickStreet();
        s.walker(0, Due.cell(3, 4), 2);
        s.thing(0, Due.cell(5, 4));
        s.goes(0, true);
        s.tenths(2);
        Due.is("BUMP", s.walkerIs(0, 7), 1);
        Due.is("BUMPS of all", s.count(7), 1);
        Due.is("YES 3 more", s.head(0, Due.cell(5, 4), 0), 3);
        Due.is("CELL", s.walkerIs(0, 1), Due.cell(4, 4));
        Due.is("SIDE", s.walkerIs(0, 2), 2);
        s.tenths(1);
        Due.is("no more BUMP", s.walkerIs(0, 7), 1);
        Due.is("the next SIDE", s.walkerIs(0, 2), 3);
        s.tenths(1);
        Due.is("goes aslant", s.walkerIs(0, 1), Due.cell(5, 5));
        s.face(0, 7);
        s.tenths(1);
        Due.is("back", s.walkerIs(0, 1), Due.cell(4, 4));

        // RIDING goes two, and stops by a BUMP
        s = new ClickStreet();
        s.walker(7, Due.cell(3, 4), 2);
        s.walker(0, Due.cell(6, 4), 0);
        s.goes(0, true);
        s.tenths(1);
        Due.is("two CELLS", s.walkerIs(0, 1), Due.cell(5, 4));
        s.tenths(1);
        Due.is("a walker is a BUMP", s.walkerIs(0, 7), 1);
        Due.is("one BUMP a TENTH", s.head(0, Due.cell(6, 4), 0), 3);
        s.face(0, 6);
        s.thing(0, Due.cell(3, 4));
        s.tenths(1);
        Due.is("one CELL, then a BUMP", s.walkerIs(0, 1), Due.cell(4, 4));
        Due.is("BUMPS", s.walkerIs(0, 7), 2);

        // YES at most 99 by BUMPS
        s = new ClickStreet();
        s.walker(0, 20, 2);
        s.thing(0, 21);
        s.goes(0, true);
        Due.text(s, 2, "0");
        s.tenths(32);
        Due.is("96", s.head(0, 21, 0), 96);
        s.tenths(2);
        Due.is("99", s.head(0, 21, 0), 99);
        Due.is("34 BUMPS", s.walkerIs(0, 7), 34);
    }

    private static void habitsByTexts() {
        String[] texts = {"0", "1", "2", "3", "4", "7", "0-1", "0-2", "0-3", "0-4", "999*2"};
        int[] sides = {0, 1, 2, 6, 0, 6, 6, 2, 1, 0, 2};
        for (int i = 0; i < texts.length; i++) {
            ClickStreet s = new ClickStreet();
            s.walker(0, 100, 0);
            s.goes(0, true);
            Due.text(s, 2, texts[i]);
            s.tenths(1);
            Due.is("SIDE by " + texts[i], s.walkerIs(0, 2), sides[i]);
            Due.is("CELL by " + texts[i], s.walkerIs(0, 1), sides[i] == 0 ? 84 : 100);
        }
        ClickStreet s = new ClickStreet();
        s.walker(0, 100, 7);
        s.walker(0, 50, 1);
        s.goes(0, true);
        Due.text(s, 2, "1");
        s.tenths(1);
        Due.is("7 and the next", s.walkerIs(0, 2), 0);
        Due.text(s, 2, "3");
        s.tenths(1);
        Due.is("0 and the second ahead", s.walkerIs(0, 2), 6);
        Due.is("who does not GO", s.walkerIs(1, 2), 1);
    }

    /** A walker at (8, 6) whose head has bumps at 3 north, 2 west, 1 east, and faces north. */
    private static ClickStreet bumped() {
        ClickStreet s = new ClickStreet();
        s.walker(1, Due.cell(8, 6), 0);
        s.thing(0, Due.cell(8, 3));
        s.thing(0, Due.cell(6, 6));
        s.thing(0, Due.cell(10, 6));
        s.air(1, 0);
        s.click(0);
        s.goes(0, true);
        return s;
    }

    private static void whatAHabitIsTold() {
        String[] texts = {
            "[f=3?1:2]", "[l=2?1:2]", "[r=2?1:2]", "[b=0?1:2]", "[t=1?1:2]", "[(f=3)*(l=2)*(r=2)?3:0]"
        };
        for (String text : texts) {
            ClickStreet s = bumped();
            Due.text(s, 2, text);
            s.tenths(1);
            Due.is(text, s.walkerIs(0, 2), text.endsWith("0]") ? 6 : 1);
        }
        ClickStreet s = bumped();
        s.face(0, 2);
        Due.text(s, 2, "[(f=2)*(l=3)*(r=0)?1:0]");
        s.tenths(1);
        Due.is("facing east", s.walkerIs(0, 2), 3);
        Due.text(s, 2, "[t=2?3:0]");
        s.tenths(1);
        Due.is("NOW 2", s.walkerIs(0, 2), 1);
        s = bumped();
        Due.text(s, 2, "[b=1?2:0]");
        s.tenths(2);
        Due.is("no BUMP", s.walkerIs(0, 1), Due.cell(8, 4));
        s.tenths(1);
        Due.is("a BUMP", s.walkerIs(0, 7), 1);
        s.tenths(1);
        Due.is("BUMPS 1", s.walkerIs(0, 2), 2);

        // aslant: full at 2 in sides 7 and 3
        s = new ClickStreet();
        s.walker(1, Due.cell(8, 6), 1);
        s.thing(0, Due.cell(6, 4));
        s.thing(0, Due.cell(10, 8));
        s.thing(0, Due.cell(5, 6));
        s.thing(0, Due.cell(11, 6));
        s.click(0);
        s.goes(0, true);
        Due.text(s, 2, "[(f=0)*(l=2)*(r=2)?2:0]");
        s.tenths(1);
        Due.is("facing 1", s.walkerIs(0, 2), 3);
        Due.text(s, 2, "[(f=2)*(l=0)*(r=0)?1:0]");
        s.tenths(1);
        Due.is("facing 3", s.walkerIs(0, 2), 4);

        // the nearest CELL is told at 9 YARDS at most
        for (int yards = 8; yards <= 11; yards++) {
            s = new ClickStreet();
            s.walker(1, Due.cell(0, 0), 2);
            s.thing(0, Due.cell(yards, 0));
            s.click(0);
            s.goes(0, true);
            Due.text(s, 2, yards > 9 ? "[f=0?1:0]" : "[f=y?1:0]".replace('y', (char) ('0' + yards)));
            s.tenths(1);
            Due.is("FULL at " + yards, s.walkerIs(0, 2), 3);
        }
        // what is held free or unknown ahead does not hinder, the nearest of two counts
        s = new ClickStreet();
        s.walker(1, Due.cell(0, 0), 2);
        s.thing(0, Due.cell(5, 0));
        s.click(0);
        s.away(0);
        s.thing(0, Due.cell(3, 0));
        s.click(0);
        s.goes(0, true);
        Due.is("3 is as much YES as NO", s.head(0, 3, 2), 0);
        Due.text(s, 2, "[f=5?1:0]");
        s.tenths(1);
        Due.is("5 is the nearest", s.walkerIs(0, 2), 3);
        s.face(0, 2);
        s.click(0);
        Due.is("3 is FULL", s.head(0, 3, 2), 2);
        Due.text(s, 2, "[f=3?1:0]");
        s.tenths(1);
        Due.is("3 is the nearest", s.walkerIs(0, 2), 3);
    }

    private static void turnsInATenth() {
        // things go on ahead of walkers
        ClickStreet s = new ClickStreet();
        s.thing(3, 21);
        s.moves(0, 2, 1);
        s.walker(0, 20, 2);
        s.goes(0, true);
        s.tenths(1);
        Due.is("the thing has gone on", s.walkerIs(0, 1), 21);
        // walkers by numbers
        s = new ClickStreet();
        s.walker(0, 20, 2);
        s.walker(0, 21, 2);
        s.goes(0, true);
        s.goes(1, true);
        s.tenths(1);
        Due.is("0 bumps into 1", s.walkerIs(0, 7), 1);
        Due.is("1 goes on", s.walkerIs(1, 1), 22);
        // clicks each so many, ahead of the habit
        s = new ClickStreet();
        s.walker(5, 20, 2);
        s.walker(3, 180, 2);
        s.walker(1, 100, 2);
        s.thing(0, 22);
        s.habit(0, 5, 60, 3);
        s.habit(1, 5, 60, 1);
        s.habit(2, 5, 60, 1);
        s.goes(0, true);
        s.goes(1, true);
        Due.text(s, 2, "[f=2?1:2]");
        s.tenths(2);
        Due.is("3 does not divide 1, 2", s.walkerIs(0, 8), 0);
        s.face(0, 2);
        s.tenths(1);
        Due.is("3 divides 3", s.walkerIs(0, 8), 1);
        Due.is("it heard ahead of its habit", s.walkerIs(0, 2), 3);
        s.tenths(6);
        Due.is("6, 9", s.walkerIs(0, 8), 3);
        Due.is("no CLICKING one", s.walkerIs(1, 8), 0);
        Due.is("who does not GO does not click", s.walkerIs(2, 8), 0);
        s.habit(0, 5, 60, 0);
        s.tenths(9);
        Due.is("EVERY 0: never", s.walkerIs(0, 8), 3);
        Due.is("CLICKS of all", s.count(8), 3);
    }

    private static void ways() {
        ClickStreet s = new ClickStreet();
        s.walker(0, Due.cell(2, 2), 0);
        Due.is("costs nothing", s.way(0, Due.cell(2, 2), -1), 0);
        Due.is("its own", s.way(0, Due.cell(2, 2), 0), Due.cell(2, 2));
        Due.is("no more", s.way(0, Due.cell(2, 2), 1), Due.NONE);
        Due.is("UNKNOWN costs 3", s.way(0, Due.cell(4, 3), -1), 9);
        Due.is("first by SIDES: 2 ahead of 4", s.way(0, Due.cell(4, 3), 1), Due.cell(3, 2));
        Due.is("2 again", s.way(0, Due.cell(4, 3), 2), Due.cell(4, 2));
        Due.is("4", s.way(0, Due.cell(4, 3), 3), Due.cell(4, 3));
        Due.is("has not so many", s.way(0, Due.cell(4, 3), 4), Due.NONE);
        Due.is("far too many", s.way(0, Due.cell(4, 3), Integer.MAX_VALUE), Due.NONE);
        Due.is("first by SIDES: 0 ahead of 6", s.way(0, Due.cell(0, 0), 2), Due.cell(2, 0));
        Due.is("first by SIDES: 4 ahead of 6", s.way(0, Due.cell(1, 3), 1), Due.cell(2, 3));
        Due.is("what -2", s.way(0, 0, -2), Due.BEYOND);
        Due.is("CELL 192", s.way(0, 192, 0), Due.BEYOND);
        Due.is("CELL -1", s.way(0, -1, 0), Due.BEYOND);
        Due.is("WALKER 1", s.way(1, 0, 0), Due.BEYOND);
        Due.is("WALKER -1", s.way(-1, 0, 0), Due.BEYOND);

        s = new ClickStreet();
        s.walker(1, Due.cell(2, 2), 0);
        s.thing(0, Due.cell(6, 2));
        s.click(0);
        Due.is("HELD FREE costs 1", s.way(0, Due.cell(5, 2), -1), 3);
        Due.is("HELD FULL costs 20", s.way(0, Due.cell(6, 2), -1), 23);
        Due.is("round what is FULL", s.way(0, Due.cell(7, 2), -1), 3 + 3 * 4);
        Due.is("round by SIDE 0 where it is nearest to nothing", s.way(0, Due.cell(7, 2), 1), Due.cell(3, 2));
        Due.is("three CELLS that are FREE", s.way(0, Due.cell(7, 2), 3), Due.cell(5, 2));
        Due.is("then SIDE 0", s.way(0, Due.cell(7, 2), 4), Due.cell(5, 1));
        s.away(0);
        Due.is("the head does not know", s.way(0, Due.cell(6, 2), -1), 23);
    }

    private static void waysByTrying() {
        Random random = new Random(5);
        for (int run = 0; run < 60; run++) {
            ClickStreet s = new ClickStreet();
            s.walker(1, random.nextInt(192), random.nextInt(8));
            for (int n = 0; n < 39; n++) {
                s.thing(random.nextInt(5), random.nextInt(192));
            }
            s.goes(0, true);
            s.habit(0, 5, 60, 1);
            Due.text(s, 2, "[t%3?[f=1?1:0]:b+t]");
            s.tenths(40 + random.nextInt(60));
            int[] costs = new int[192];
            for (int cell = 0; cell < 192; cell++) {
                int held = s.head(0, cell, 2);
                costs[cell] = held == 0 ? 3 : held == 1 ? 1 : 20;
            }
            String[] ways = leastWays(s.walkerIs(0, 1), costs);
            for (int n = 0; n < 4; n++) {
                int target = random.nextInt(192);
                int cell = s.walkerIs(0, 1);
                int cost = 0;
                Due.is("way, from", s.way(0, target, 0), cell);
                for (int i = 0; i < ways[target].length(); i++) {
                    cell = beside(cell, ways[target].charAt(i) - '0');
                    cost += costs[cell];
                    Due.is("way, run " + run, s.way(0, target, i + 1), cell);
                }
                Due.is("way, behind", s.way(0, target, ways[target].length() + 1), Due.NONE);
                Due.is("way, cost", s.way(0, target, -1), cost);
            }
        }
    }

    private static int beside(int cell, int side) {
        int x = cell % 16 + (side == 2 ? 1 : side == 6 ? -1 : 0);
        int y = cell / 16 + (side == 4 ? 1 : side == 0 ? -1 : 0);
        return x < 0 || x > 15 || y < 0 || y > 11 ? -1 : 16 * y + x;
    }

    /** Forward, till nothing gets better: ways as rows of sides, compared as texts. */
    private static String[] leastWays(int from, int[] costs) {
        String[] ways = new String[192];
        int[] least = new int[192];
        ways[from] = "";
        boolean isBetter = true;
        while (isBetter) {
            isBetter = false;
            for (int cell = 0; cell < 192; cell++) {
                for (int side = 0; side < 8 && ways[cell] != null; side += 2) {
                    int next = beside(cell, side);
                    if (next < 0) {
                        continue;
                    }
                    int cost = least[cell] + costs[next];
                    String way = ways[cell] + side;
                    if (ways[next] == null || cost < least[next]
                        || cost == least[next] && way.compareTo(ways[next]) < 0) {
                        ways[next] = way;
                        least[next] = cost;
                        isBetter = true;
                    }
                }
            }
        }
        return ways;
    }

    private static void speeds() {
        int[] due = {0, 1, 1, 2, 2, 2, 3, 3, 3, 3, 4, 4};
        for (int yards = 2; yards <= 12; yards++) {
            ClickStreet s = new ClickStreet();
            s.walker(1, 0, 2);
            s.thing(0, yards);
            Due.is("an echo at " + yards, s.safe(0), due[yards - 1]);
            Due.is("nothing is clicked", s.walkerIs(0, 8), 0);
        }
        ClickStreet s = new ClickStreet();
        s.walker(1, 0, 2);
        s.thing(0, 1);
        Due.is("masked at 1, nothing known", s.safe(0), 0);
        s.away(0);
        s.thing(0, 4);
        s.click(0);
        s.away(1);
        s.thing(0, 1);
        Due.is("masked at 1, 3 HELD FREE", s.safe(0), 2);
        s.air(1, 0);
        Due.is("an echo at 1", s.safe(0), 0);
        s = new ClickStreet();
        s.walker(1, 0, 2);
        s.thing(0, 1);
        s.away(0);
        Due.is("no echo, nothing known", s.safe(0), 0);
        s.thing(0, 12);
        s.click(0);
        s.away(1);
        Due.is("11 HELD FREE", s.safe(0), 4);
        s.thing(0, 4);
        Due.is("the echo counts, if it is HEARD", s.safe(0), 2);
        s.habit(0, 5, 1, 0);
        Due.is("else what is held", s.safe(0), 4);
        s.habit(0, 5, 60, 0);
        s.click(0);
        s.away(2);
        Due.is("YES and NO at 4", s.safe(0), 2);
        s.face(0, 4);
        Due.is("another side", s.safe(0), 0);
        Due.is("WALKER 1", s.safe(1), Due.BEYOND);
        Due.is("WALKER -1", s.safe(-1), Due.BEYOND);

        // a whole row of 15
        s = new ClickStreet();
        s.walker(1, 0, 2);
        s.thing(0, 12);
        s.click(0);
        s.away(0);
        s.goes(0, true);
        s.tenths(4);
        s.thing(0, 15);
        s.click(0);
        s.away(1);
        s.face(0, 6);
        s.thing(0, 0);
        s.click(0);
        s.away(2);
        s.tenths(4);
        s.face(0, 2);
        Due.is("14 HELD FREE, 15 FULL", s.safe(0), 4);
        s.face(0, 6);
        Due.is("the edge", s.safe(0), 0);
        fifteen();
    }

    /** (15, 5) is told from the south, the others of its row from within the row. */
    private static void fifteen() {
        ClickStreet s = new ClickStreet();
        s.walker(1, Due.cell(15, 7), 0);
        s.walker(1, Due.cell(8, 11), 2);
        Due.text(s, 2, "0");
        s.goes(0, true);
        s.thing(0, Due.cell(15, 3));
        s.click(0);
        s.tenths(2);
        s.face(0, 6);
        s.thing(0, Due.cell(3, 5));
        s.click(0);
        s.away(1);
        s.tenths(10);
        s.thing(0, Due.cell(0, 5));
        s.click(0);
        s.click(0);
        s.away(2);
        s.tenths(5);
        Due.is("at the edge", s.walkerIs(0, 1), Due.cell(0, 5));
        s.face(0, 2);
        Due.is("15 HELD FREE", s.safe(0), 5);
        Due.is("another walker's head", s.safe(1), 0);
    }
}
