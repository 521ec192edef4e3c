/** What Terms 1, 2, 3 of the document say: the street, walkers, clicks. */
public final class EdgeTermsTest {
    private static final int[] ROUND = {-16, -15, 1, 17, 16, 15, -1, -17};

    public static void main(String[] args) {
        edgesOfTheStreet();
        sidesAndTenths();
        things();
        kindsOfThings();
        steps();
        walkers();
        reaches();
        speedsAndEars();
        clicksOfWalkers();
        firstCells();
        lateness();
        strengths();
        heard();
        ears();
        heads();
        held();
        Due.end("EdgeTermsTest");
    }

    // ---- 1

    private static void edgesOfTheStreet() {
        String cells = "CELL 16 y + x has x (0 .. 15, to the east) and y (0 .. 11, to the south).";
        String[] names = {"north", "north-east", "east", "south-east", "south", "south-west", "west", "north-west"};
        int[][] at = {
            {3}, {3, 15, 31}, {15, 31, 191}, {31, 191, 180}, {180, 176}, {176, 160, 185}, {0, 16, 176}, {0, 16, 9}
        };
        for (int side = 0; side < 8; side++) {
            for (int cell : at[side]) {
                ClickStreet s = Edge.of("Term 1", cells, "the edge in the " + names[side] + " of CELL " + cell);
                s.thing(4, cell);
                s.moves(0, side, 1);
                s.tenths(1);
                Due.is("its CELL", s.thingIs(0, 1), cell);
                Due.is("its SIDE", s.thingIs(0, 2), (side + 4) % 8);
            }
        }
        ClickStreet s = Edge.of("Term 1", "THE STREET has 192 CELLS:", "the first and the last");
        Due.is("CELL 0", s.at(0), -1);
        Due.is("CELL 191", s.at(191), -1);
        s = Edge.of("Term 1", "THE STREET has 192 CELLS:", "none ahead, none behind");
        Due.is("CELL -1", s.at(-1), Due.BEYOND);
        Due.is("CELL 192", s.at(192), Due.BEYOND);
    }

    private static void sidesAndTenths() {
        String sides = "SIDES 0 .. 7: 0 north, 1 north-east, 2 east, and so on round to 7 north-west.";
        for (int side = 0; side < 8; side++) {
            ClickStreet s = Edge.of("Term 1", sides, "SIDE " + side);
            s.thing(3, 85);
            s.moves(0, side, 1);
            s.tenths(1);
            Due.is("its CELL", s.thingIs(0, 1), 85 + ROUND[side]);
        }
        ClickStreet s = Edge.of("Term 1", sides, "SIDES -1 and 8");
        s.walker(0, 85, 7);
        Due.is("-1", s.face(0, -1), Due.BEYOND);
        Due.is("8", s.face(0, 8), Due.BEYOND);
        for (int side = 0; side < 8; side++) {
            s = Edge.of("Term 1", "YARDS are steps by CELLS in a SIDE.", "3 in SIDE " + side);
            s.walker(1, 85, 0);
            s.thing(0, 85 + 3 * ROUND[side]);
            Due.is("YARDS", s.echo(0, 560, side, 0), 3);
        }
        s = Edge.of("Term 1", "TENTHS are 0 .. 9999; NOW is one (0 at first).", "at first");
        Due.is("NOW", s.count(0), 0);
        s = Edge.of("Term 1", "TENTHS are 0 .. 9999; NOW is one (0 at first).", "the last");
        for (int i = 0; i < 99; i++) {
            s.tenths(100);
        }
        Due.is("NOW", s.tenths(99), 9999);
        Due.is("none behind", s.tenths(1), Due.STATE);
    }

    private static void things() {
        String most = "THINGS 0, 1, .. (at most 40) of KINDS 0 WALL, 1 POLE, 2 LEAVES, 3 MAN, 4 BUS are each in a CELL,"
            + " or away for good.";
        ClickStreet s = Edge.of("Term 1", most, "the fortieth, and one more");
        for (int i = 0; i < 39; i++) {
            s.thing(0, i);
        }
        Due.is("the fortieth", s.thing(0, 100), 39);
        Due.is("one more", s.thing(0, 101), Due.FULL);
        s = Edge.of("Term 1", most, "KINDS");
        Due.is("KIND -1", s.thing(-1, 0), Due.BEYOND);
        Due.is("KIND 0", s.thing(0, 0), 0);
        Due.is("KIND 4", s.thing(4, 1), 1);
        Due.is("KIND 5", s.thing(5, 2), Due.BEYOND);
        s = Edge.of("Term 1", most, "one that is away stays a THING, for good");
        s.thing(3, 20);
        s.moves(0, 2, 1);
        s.away(0);
        s.tenths(5);
        Due.is("its CELL", s.thingIs(0, 1), -1);
        Due.is("the next", s.thing(3, 20), 1);
        s = Edge.of("Term 1", most, "one in CELL 0 is not away");
        s.thing(3, 0);
        Due.is("moves", s.moves(0, 2, 1), 1);
        Due.is("count", s.count(1), 1);
        String free = "A CELL is FREE without a THING and a WALKER.";
        s = Edge.of("Term 1", free, "with THING 0");
        s.thing(2, 9);
        Due.is("for a THING", s.thing(0, 9), Due.STATE);
        Due.is("for a WALKER", s.walker(0, 9, 0), Due.STATE);
        s = Edge.of("Term 1", free, "with WALKER 0");
        s.walker(0, 9, 0);
        Due.is("for a THING", s.thing(0, 9), Due.STATE);
        Due.is("for a WALKER", s.walker(0, 9, 0), Due.STATE);
        s = Edge.of("Term 1", free, "behind one that went on");
        s.walker(0, 9, 2);
        s.goes(0, true);
        s.tenths(1);
        Due.is("where it was", s.thing(0, 9), 0);
        Due.is("where it is", s.thing(0, 10), Due.STATE);
        s = Edge.of("Term 1", free, "behind a THING that is away");
        s.thing(2, 9);
        s.away(0);
        Due.is("for a WALKER", s.walker(0, 9, 0), 0);
    }

    private static void kindsOfThings() {
        String kinds = "KINDS have LOUD (0 .. 99; 50 at first) and SHARP (0 .. 9; 0 at first).";
        for (int kind = 0; kind < 5; kind++) {
            ClickStreet s = Edge.of("Term 1", kinds, "KIND " + kind + " at first");
            Due.is("LOUD", s.kind(kind, 0, 50), 50);
            Due.is("SHARP", s.kind(kind, 1, 0), 0);
            s = Edge.of("Term 1", kinds, "the least and the greatest of KIND " + kind);
            Due.is("LOUD -1", s.kind(kind, 0, -1), Due.BEYOND);
            Due.is("LOUD 0", s.kind(kind, 0, 0), 50);
            Due.is("LOUD 99", s.kind(kind, 0, 99), 0);
            Due.is("LOUD 100", s.kind(kind, 0, 100), Due.BEYOND);
            Due.is("LOUD is 99", s.kind(kind, 0, 50), 99);
            Due.is("SHARP -1", s.kind(kind, 1, -1), Due.BEYOND);
            Due.is("SHARP 9", s.kind(kind, 1, 9), 0);
            Due.is("SHARP 10", s.kind(kind, 1, 10), Due.BEYOND);
            Due.is("SHARP is 9", s.kind(kind, 1, 0), 9);
        }
    }

    private static void steps() {
        String step = "A MAN or a BUS has a SIDE and a STEP (0 .. 20; 0 at first: it stands):";
        ClickStreet s = Edge.of("Term 1", step, "at first");
        s.thing(3, 85);
        s.thing(4, 95);
        s.tenths(60);
        Due.is("SIDE", s.thingIs(0, 2), 0);
        Due.is("STEP", s.thingIs(0, 3), 0);
        Due.is("the MAN stands", s.thingIs(0, 1), 85);
        Due.is("the BUS stands", s.thingIs(1, 1), 95);
        s = Edge.of("Term 1", step, "0 again");
        s.thing(3, 85);
        s.moves(0, 2, 1);
        s.tenths(1);
        s.moves(0, 2, 0);
        s.tenths(9);
        Due.is("it stands", s.thingIs(0, 1), 86);
        s = Edge.of("Term 1", step, "20, and no more");
        s.thing(3, 85);
        Due.is("20", s.moves(0, 2, 20), 1);
        Due.is("21", s.moves(0, 2, 21), Due.BEYOND);
        s.tenths(19);
        Due.is("in TENTHS 1 to 19", s.thingIs(0, 1), 85);
        s.tenths(1);
        Due.is("in TENTH 20", s.thingIs(0, 1), 86);
        s.tenths(20);
        Due.is("in TENTH 40", s.thingIs(0, 1), 87);
        String divides = "in a TENTH that STEP divides it goes on to the next CELL in its SIDE, if that is in THE STREET"
            + " and FREE;";
        s = Edge.of("Term 1", divides, "TENTHS 1 .. 7 by 3");
        s.thing(4, 80);
        s.moves(0, 2, 3);
        int[] due = {80, 80, 81, 81, 81, 82, 82};
        for (int i = 0; i < 7; i++) {
            s.tenths(1);
            Due.is("TENTH " + (i + 1), s.thingIs(0, 1), due[i]);
        }
        String else1 = "else its SIDE becomes the opposite one.";
        for (int side = 0; side < 8; side++) {
            for (int full = 0; full < 2; full++) {
                s = Edge.of("Term 1", else1, "SIDE " + side + (full == 0 ? ", a THING" : ", a WALKER"));
                s.thing(3, 85);
                if (full == 0) {
                    s.thing(2, 85 + ROUND[side]);
                } else {
                    s.walker(0, 85 + ROUND[side], 0);
                }
                s.moves(0, side, 1);
                s.tenths(1);
                Due.is("its SIDE", s.thingIs(0, 2), (side + 4) % 8);
                Due.is("it has not gone back in the same TENTH", s.thingIs(0, 1), 85);
                s.tenths(1);
                Due.is("it goes back in the next", s.thingIs(0, 1), 85 - ROUND[side]);
            }
        }
    }

    // ---- 2

    private static void walkers() {
        String most = "WALKERS 0, 1, .. (at most 8), each in a CELL of its own, FACING a SIDE, of KINDS:";
        ClickStreet s = Edge.of("Term 2", most, "the eighth, and one more");
        for (int i = 0; i < 7; i++) {
            s.walker(0, i, 0);
        }
        Due.is("the eighth", s.walker(0, 7, 0), 7);
        Due.is("one more", s.walker(0, 8, 0), Due.FULL);
        s = Edge.of("Term 2", most, "a CELL of its own");
        s.walker(0, 80, 2);
        s.walker(0, 82, 6);
        Due.is("where one is", s.walker(0, 80, 0), Due.STATE);
        s.goes(0, true);
        s.goes(1, true);
        s.tenths(1);
        Due.is("the first goes", s.walkerIs(0, 1), 81);
        Due.is("the second does not come there", s.walkerIs(1, 1), 82);
        String kinds = "0 WALKER, 1 CLICKING under WALKER, 2 TAPPING under WALKER, 3 LISTENING under WALKER, 4 LED under"
            + " WALKER, 5 NEW under CLICKING, 6 OLD under LISTENING, 7 RIDING under CLICKING.";
        String[] under = {"0", "10", "20", "30", "40", "510", "630", "710"};
        for (int kind = 0; kind < 8; kind++) {
            s = Edge.of("Term 2", kinds, "KIND " + kind);
            Due.is("walker", s.walker(kind, 80, 0), 0);
            for (int as = 0; as < 8; as++) {
                boolean is = under[kind].indexOf((char) ('0' + as)) >= 0;
                Due.is("as " + as, s.as(0, as) == Due.KIND ? 0 : 1, is ? 1 : 0);
            }
        }
        s = Edge.of("Term 2", kinds, "KINDS -1 and 8");
        Due.is("-1", s.walker(-1, 80, 0), Due.BEYOND);
        Due.is("8", s.walker(8, 80, 0), Due.BEYOND);
    }

    private static void reaches() {
        String all = "REACH, in YARDS: a WALKER 3; a CLICKING one four times what a WALKER would, and so on up: TAPPING: 1;"
            + " LISTENING: twice; LED: 0; NEW: half of what a CLICKING one would; OLD: 1 less than a LISTENING one;"
            + " RIDING: 2 less than a CLICKING one.";
        int[] reach = {3, 12, 1, 6, 0, 6, 5, 10};
        for (int kind = 0; kind < 8; kind++) {
            ClickStreet s = Edge.of("Term 2", all, "KIND " + kind + " at REACH and above");
            s.walker(kind, 80, 2);
            s.thing(0, 80 + reach[kind] + 1);
            Due.is("REACH", s.walkerIs(0, 9), reach[kind]);
            Due.is("above", s.echo(0, 560, 2, 0), Due.NONE);
            if (reach[kind] > 0) {
                s.thing(0, 80 + reach[kind]);
                Due.is("at REACH", s.echo(0, 560, 2, 0), reach[kind]);
            }
        }
    }

    private static void speedsAndEars() {
        int[] speed = {1, 1, 1, 1, 1, 1, 1, 2};
        int[] ears = {9, 9, 9, 9, 9, 9, 5, 9};
        for (int kind = 0; kind < 8; kind++) {
            ClickStreet s = Edge.of("Term 2", "SPEED: 1; RIDING 1 more.", "KIND " + kind);
            s.walker(kind, 80, 2);
            s.goes(0, true);
            s.tenths(1);
            Due.is("SPEED", s.walkerIs(0, 10), speed[kind]);
            Due.is("CELL", s.walkerIs(0, 1), 80 + speed[kind]);
            s = Edge.of("Term 2", "EARS, the greatest PITCH that it hears: 9; OLD 4 less.", "KIND " + kind);
            s.walker(kind, 80, 2);
            s.thing(0, 81);
            s.air(1, 0);
            Due.is("EARS", s.walkerIs(0, 11), ears[kind]);
            for (int pitch = 1; pitch <= 9 && kind != 4; pitch++) {
                Due.is("PITCH " + pitch, s.echo(0, 100 * pitch + 60, 2, 5), pitch <= ears[kind] ? 1 : 0);
            }
        }
    }

    private static void clicksOfWalkers() {
        String click = "A WALKER's CLICK has a PITCH (1 .. 9; 5 at first), a LOUDNESS (1 .. 99; 60 at first), and comes each"
            + " so many TENTHS (EVERY: 0 .. 30; 0, never, at first).";
        ClickStreet s = Edge.of("Term 2", click, "at first");
        s.walker(1, 80, 0);
        Due.is("PITCH", s.walkerIs(0, 3), 5);
        Due.is("LOUDNESS", s.walkerIs(0, 4), 60);
        Due.is("EVERY", s.walkerIs(0, 5), 0);
        s = Edge.of("Term 2", click, "never at first");
        s.walker(1, 80, 2);
        s.goes(0, true);
        s.tenths(60);
        Due.is("CLICKS", s.walkerIs(0, 8), 0);
        int[][] bad = {{0, 60, 0}, {10, 60, 0}, {5, 0, 0}, {5, 100, 0}, {5, 60, -1}, {5, 60, 31}};
        for (int[] a : bad) {
            s = Edge.of("Term 2", click, "PITCH " + a[0] + ", LOUDNESS " + a[1] + ", EVERY " + a[2]);
            s.walker(1, 80, 0);
            Due.is("habit", s.habit(0, a[0], a[1], a[2]), Due.BEYOND);
        }
        int[][] good = {{1, 60, 0}, {9, 60, 0}, {5, 1, 0}, {5, 99, 0}, {5, 60, 0}, {5, 60, 30}};
        for (int[] a : good) {
            s = Edge.of("Term 2", click, "PITCH " + a[0] + ", LOUDNESS " + a[1] + ", EVERY " + a[2]);
            s.walker(1, 80, 0);
            Due.is("habit", s.habit(0, a[0], a[1], a[2]), 1);
            Due.is("PITCH", s.walkerIs(0, 3), a[0]);
            Due.is("LOUDNESS", s.walkerIs(0, 4), a[1]);
            Due.is("EVERY", s.walkerIs(0, 5), a[2]);
        }
        s = Edge.of("Term 2", click, "each 30");
        s.walker(1, 80, 2);
        s.goes(0, true);
        s.habit(0, 5, 60, 30);
        s.tenths(29);
        Due.is("TENTH 29", s.walkerIs(0, 8), 0);
        s.tenths(1);
        Due.is("TENTH 30", s.walkerIs(0, 8), 1);
        s.tenths(30);
        Due.is("TENTH 60", s.walkerIs(0, 8), 2);
        s = Edge.of("Term 2", "It GOES, or not (not at first).", "at first");
        s.walker(0, 80, 2);
        s.tenths(9);
        Due.is("GOES", s.walkerIs(0, 6), 0);
        Due.is("CELL", s.walkerIs(0, 1), 80);
    }

    // ---- 3

    private static void firstCells() {
        String first = "A CLICK: from each SIDE an ECHO comes of the first CELL in it, at 1 to REACH YARDS, that isn't FREE.";
        ClickStreet s = Edge.of("Term 3", first, "at 1 YARD");
        s.walker(1, 85, 0);
        s.thing(0, 69);
        Due.is("YARDS", s.echo(0, 560, 0, 0), 1);
        s = Edge.of("Term 3", first, "at REACH, and above");
        s.walker(0, 85, 0);
        s.thing(0, 89);
        Due.is("4", s.echo(0, 560, 2, 0), Due.NONE);
        s.thing(0, 88);
        Due.is("3", s.echo(0, 560, 2, 0), 3);
        s = Edge.of("Term 3", first, "the first of two");
        s.walker(1, 85, 0);
        s.thing(0, 89);
        s.thing(1, 87);
        s.kind(1, 0, 99);
        Due.is("YARDS", s.echo(0, 560, 2, 0), 2);
        Due.is("of the POLE", s.echo(0, 560, 2, 2), 60 * 99 / 50 - 4);
        s = Edge.of("Term 3", first, "the first of two, when it is too weak");
        s.walker(1, 85, 0);
        s.thing(0, 89);
        s.thing(1, 87);
        s.kind(1, 0, 0);
        Due.is("no ECHO of the second", s.click(0), 0);
        s = Edge.of("Term 3", first, "a WALKER");
        s.walker(1, 85, 0);
        s.walker(1, 88, 0);
        Due.is("to the one", s.echo(0, 560, 2, 0), 3);
        Due.is("to the other", s.echo(1, 560, 6, 0), 3);
        s = Edge.of("Term 3", first, "none of a THING that is away");
        s.walker(1, 85, 0);
        s.thing(0, 88);
        s.away(0);
        Due.is("echo", s.echo(0, 560, 2, 0), Due.NONE);
        s = Edge.of("Term 3", first, "none of the edge, nor round it");
        s.walker(1, 31, 0);
        s.thing(0, 32);
        s.thing(0, 16);
        s.thing(0, 176 + 15);
        Due.is("east of the street", s.echo(0, 560, 2, 0), Due.NONE);
        Due.is("north of the street", s.echo(0, 560, 0, 0), Due.NONE);
        Due.is("north-east of the street", s.echo(0, 560, 1, 0), Due.NONE);
        Due.is("south-east of the street", s.echo(0, 560, 3, 0), Due.NONE);
        s = Edge.of("Term 3", first, "from each SIDE");
        s.walker(1, 85, 0);
        for (int side = 0; side < 8; side++) {
            s.thing(0, 85 + 2 * ROUND[side]);
        }
        Due.is("HEARD", s.click(0), 8);
    }

    private static void lateness() {
        String late = "It is LATE by 6 thousandths for each YARD (8 in SIDES 1, 3, 5, 7).";
        for (int side = 0; side < 8; side++) {
            for (int yards = 1; yards <= 5; yards += 2) {
                ClickStreet s = Edge.of("Term 3", late, "SIDE " + side + ", YARDS " + yards);
                s.walker(1, 85, 0);
                s.thing(0, 85 + yards * ROUND[side]);
                Due.is("thousandths", s.echo(0, 560, side, 1), yards * (side % 2 == 0 ? 6 : 8));
            }
        }
    }

    private static void strengths() {
        String told = "Its STRENGTH is told by the TEXT of USE 0, held within 0 .. 999;";
        String[] texts = {"0-1", "0", "1", "998", "999", "999+1", "0-999*999", "999*999", "999*999*999*3"};
        int[] due = {0, 0, 1, 998, 999, 999, 0, 999, 0};
        for (int i = 0; i < texts.length; i++) {
            ClickStreet s = Edge.of("Term 3", told, texts[i]);
            s.walker(1, 85, 0);
            s.thing(0, 88);
            Due.text(s, 0, texts[i]);
            Due.is("STRENGTH", s.echo(0, 560, 2, 2), due[i]);
        }
        ClickStreet s = Edge.of("Term 3", told, "below 0 without a TEXT");
        s.walker(1, 85, 0);
        s.thing(0, 88);
        Due.is("5 - 6", s.echo(0, 505, 2, 2), 0);
        Due.is("6 - 6", s.echo(0, 506, 2, 2), 0);
        Due.is("7 - 6", s.echo(0, 507, 2, 2), 1);
        String snow = "in SNOW half of that;";
        int[] halves = {0, 0, 0, 499, 499, 499, 0, 499, 0};
        for (int i = 0; i < texts.length; i++) {
            s = Edge.of("Term 3", snow, texts[i]);
            s.walker(1, 85, 0);
            s.thing(0, 88);
            s.air(2, 1);
            Due.text(s, 0, texts[i]);
            Due.is("STRENGTH", s.echo(0, 560, 2, 2), halves[i]);
        }
        s = Edge.of("Term 3", snow, "half of 1 is not HEARD");
        s.walker(1, 85, 0);
        s.thing(0, 88);
        s.air(2, 1);
        Due.text(s, 0, "1");
        Due.text(s, 1, "1");
        Due.is("echo", s.echo(0, 560, 2, 5), 0);
        String sharp = "0 if SHARP of the KIND is above PITCH (a WALKER there is as a MAN).";
        for (int pitch = 1; pitch <= 9; pitch++) {
            s = Edge.of("Term 3", sharp, "PITCH " + pitch);
            s.walker(1, 85, 0);
            s.thing(2, 88);
            s.kind(2, 1, pitch);
            Due.is("SHARP as PITCH", s.echo(0, 100 * pitch + 60, 2, 2), 54);
            if (pitch > 1) {
                Due.is("SHARP above PITCH", s.echo(0, 100 * pitch - 40, 2, 2), 0);
            }
        }
        s = Edge.of("Term 3", sharp, "by a TEXT, too");
        s.walker(1, 85, 0);
        s.thing(2, 88);
        s.kind(2, 1, 6);
        Due.text(s, 0, "9");
        Due.is("PITCH 5", s.echo(0, 560, 2, 2), 0);
        Due.is("PITCH 6", s.echo(0, 660, 2, 2), 9);
        s = Edge.of("Term 3", sharp, "a WALKER is as a MAN");
        s.walker(1, 85, 0);
        s.walker(0, 88, 0);
        s.kind(3, 0, 75);
        Due.is("LOUD of a MAN", s.echo(0, 560, 2, 2), 90 - 6);
        s.kind(3, 1, 6);
        Due.is("SHARP of a MAN", s.echo(0, 560, 2, 2), 0);
    }

    private static void heard() {
        String heard = "It is HEARD if PITCH is EARS at most, it is more LATE than MASK (0 .. 90; 9 at first), its STRENGTH"
            + " isn't 0, and the TEXT of USE 1 isn't 0.";
        ClickStreet s = Edge.of("Term 3", heard, "PITCH as EARS, and above");
        s.walker(6, 85, 0);
        s.thing(0, 88);
        Due.is("5", s.echo(0, 560, 2, 5), 1);
        Due.is("6", s.echo(0, 660, 2, 5), 0);
        s = Edge.of("Term 3", heard, "PITCH as EARS, and above, with LOUDNESS 1 and 99");
        s.walker(6, 85, 0);
        s.thing(0, 88);
        Due.text(s, 0, "9");
        Due.is("501", s.echo(0, 501, 2, 5), 1);
        Due.is("599", s.echo(0, 599, 2, 5), 1);
        Due.is("601", s.echo(0, 601, 2, 5), 0);
        Due.is("699", s.echo(0, 699, 2, 5), 0);
        s = Edge.of("Term 3", heard, "PITCH is that of the CLICK");
        s.walker(6, 85, 0);
        s.thing(0, 88);
        s.habit(0, 9, 60, 0);
        Due.is("5", s.echo(0, 560, 2, 5), 1);
        s = Edge.of("Term 3", heard, "as LATE as MASK, and more");
        s.walker(1, 85, 0);
        s.thing(0, 88);
        s.air(1, 18);
        Due.is("18 by 18", s.echo(0, 560, 2, 5), 0);
        s.air(1, 17);
        Due.is("18 by 17", s.echo(0, 560, 2, 5), 1);
        s = Edge.of("Term 3", heard, "MASK 9 at first");
        s.walker(1, 85, 0);
        s.thing(0, 86);
        s.thing(0, 83);
        Due.is("6", s.echo(0, 560, 2, 5), 0);
        Due.is("12", s.echo(0, 560, 6, 5), 1);
        Due.is("it was", s.air(1, 0), 9);
        s = Edge.of("Term 3", heard, "MASK 90");
        s.walker(1, 4, 0);
        s.thing(0, 4 + 11);
        s.thing(0, 4 + 11 * 17);
        s.air(1, 90);
        Due.is("66", s.echo(0, 599, 2, 5), 0);
        Due.is("88", s.echo(0, 599, 3, 5), 0);
        s.air(1, 87);
        Due.is("88 by 87", s.echo(0, 599, 3, 5), 1);
        s = Edge.of("Term 3", heard, "MASK 0");
        s.walker(1, 85, 0);
        s.thing(0, 86);
        s.air(1, 0);
        Due.is("6", s.echo(0, 560, 2, 5), 1);
        s = Edge.of("Term 3", heard, "STRENGTH 0, whatever the TEXT");
        s.walker(1, 85, 0);
        s.thing(0, 88);
        Due.text(s, 1, "1");
        Due.is("6 - 6", s.echo(0, 506, 2, 5), 0);
        Due.is("7 - 6", s.echo(0, 507, 2, 5), 1);
        String[] texts = {"0", "1", "0-1", "999", "s-s", "5/0"};
        int[] due = {0, 1, 1, 1, 0, 0};
        for (int i = 0; i < texts.length; i++) {
            s = Edge.of("Term 3", heard, "by the TEXT " + texts[i]);
            s.walker(1, 85, 0);
            s.thing(0, 88);
            Due.text(s, 1, texts[i]);
            Due.is("echo", s.echo(0, 560, 2, 5), due[i]);
        }
    }

    private static void ears() {
        String ears = "Of an ECHO the left ear gets its STRENGTH, half of it if it comes from the three SIDES to the right of"
            + " that which is FACED; the right ear likewise half from the three to the left.";
        String[] ahead = {"from ahead", "1 right", "2 right", "3 right", "from behind", "3 left", "2 left", "1 left"};
        for (int facing = 0; facing < 8; facing++) {
            for (int round = 0; round < 8; round++) {
                ClickStreet s = Edge.of("Term 3", ears, "FACING " + facing + ", " + ahead[round]);
                int side = (facing + round) % 8;
                s.walker(1, 85, facing);
                s.thing(0, 85 + ROUND[side]);
                Due.text(s, 0, "41");
                Due.is("left", s.echo(0, 560, side, 3), round >= 1 && round <= 3 ? 20 : 41);
                Due.is("right", s.echo(0, 560, side, 4), round >= 5 ? 20 : 41);
            }
        }
        ClickStreet s = Edge.of("Term 3", ears, "half of 1, half of 0");
        s.walker(1, 85, 0);
        s.thing(0, 86);
        Due.text(s, 0, "1");
        Due.is("left", s.echo(0, 560, 2, 3), 0);
        Due.is("right", s.echo(0, 560, 2, 4), 1);
        Due.text(s, 0, "0");
        Due.is("right of 0", s.echo(0, 560, 2, 4), 0);
    }

    private static void heads() {
        String keeps = "A HEAD keeps, by CELLS, YES and NO (0 at first; 99 at most).";
        ClickStreet s = Edge.of("Term 3", keeps, "at first");
        s.walker(1, 85, 0);
        for (int cell = 0; cell < 192; cell++) {
            Due.is("YES", s.head(0, cell, 0), 0);
            Due.is("NO", s.head(0, cell, 1), 0);
        }
        for (int more = 98; more <= 101; more++) {
            s = Edge.of("Term 3", keeps, more + " CLICKS");
            s.walker(1, 85, 2);
            s.thing(0, 88);
            for (int i = 0; i < more; i++) {
                s.click(0);
            }
            Due.is("YES", s.head(0, 88, 0), Math.min(99, more));
            Due.is("NO", s.head(0, 87, 1), Math.min(99, more));
        }
        for (int bumps = 32; bumps <= 35; bumps++) {
            s = Edge.of("Term 3", keeps, "YES by " + bumps + " BUMPS and 1 CLICK");
            s.walker(1, 85, 2);
            s.thing(0, 86);
            s.air(1, 0);
            s.click(0);
            Due.text(s, 2, "0");
            s.goes(0, true);
            s.tenths(bumps);
            Due.is("YES", s.head(0, 86, 0), Math.min(99, 1 + 3 * bumps));
        }
        String by = "By a CLICK: for each ECHO that is HEARD: YES of its CELL, and NO of each CELL that is nearer in that SIDE,"
            + " is 1 more.";
        for (int side = 0; side < 8; side++) {
            s = Edge.of("Term 3", by, "SIDE " + side);
            s.walker(1, 85, 0);
            s.thing(0, 85 + 3 * ROUND[side]);
            s.click(0);
            for (int yards = 0; yards <= 4; yards++) {
                Due.is("YES at " + yards, s.head(0, 85 + yards * ROUND[side], 0), yards == 3 ? 1 : 0);
                Due.is("NO at " + yards, s.head(0, 85 + yards * ROUND[side], 1), yards == 1 || yards == 2 ? 1 : 0);
            }
        }
        s = Edge.of("Term 3", by, "none nearer than 1 YARD");
        s.walker(1, 85, 0);
        s.thing(0, 86);
        s.air(1, 0);
        s.click(0);
        Due.is("YES", s.head(0, 86, 0), 1);
        Due.is("HELD FREE", s.heads(0, 1), 0);
        s = Edge.of("Term 3", by, "an ECHO that is not HEARD");
        s.walker(1, 85, 0);
        s.thing(0, 86);
        s.thing(0, 82);
        s.kind(0, 1, 6);
        Due.is("HEARD", s.click(0), 0);
        Due.is("UNKNOWN", s.heads(0, 0), 192);
        s = Edge.of("Term 3", by, "in its own HEAD alone");
        s.walker(1, 85, 0);
        s.walker(1, 88, 0);
        s.click(0);
        Due.is("its own", s.head(0, 88, 0), 1);
        Due.is("the other's", s.heads(1, 0), 192);
    }

    private static void held() {
        String held = "A CELL is HELD FULL if YES is above NO, HELD FREE if NO is above YES, else UNKNOWN.";
        ClickStreet s = Edge.of("Term 3", held, "0 and 0");
        s.walker(1, 85, 0);
        Due.is("held", s.head(0, 87, 2), 0);
        s = Edge.of("Term 3", held, "YES 1, NO 0; NO 1, YES 0");
        s.walker(1, 85, 0);
        s.thing(0, 87);
        s.click(0);
        Due.is("87", s.head(0, 87, 2), 2);
        Due.is("86", s.head(0, 86, 2), 1);
        s = Edge.of("Term 3", held, "1 and 1");
        s.walker(1, 85, 0);
        s.thing(0, 87);
        s.click(0);
        s.away(0);
        s.thing(0, 89);
        s.click(0);
        Due.is("YES", s.head(0, 87, 0), 1);
        Due.is("NO", s.head(0, 87, 1), 1);
        Due.is("held", s.head(0, 87, 2), 0);
        s = Edge.of("Term 3", held, "YES 1, NO 2");
        s.walker(1, 85, 0);
        s.thing(0, 87);
        s.click(0);
        s.away(0);
        s.thing(0, 89);
        s.click(0);
        s.click(0);
        Due.is("held", s.head(0, 87, 2), 1);
        s = Edge.of("Term 3", held, "YES 2, NO 1");
        s.walker(1, 85, 0);
        s.thing(0, 89);
        s.click(0);
        s.thing(0, 87);
        s.click(0);
        s.click(0);
        Due.is("held", s.head(0, 87, 2), 2);
        s = Edge.of("Term 3", held, "99 and 99");
        s.walker(1, 85, 0);
        s.thing(0, 89);
        for (int i = 0; i < 101; i++) {
            s.click(0);
        }
        s.thing(0, 87);
        for (int i = 0; i < 99; i++) {
            s.click(0);
        }
        Due.is("YES", s.head(0, 87, 0), 99);
        Due.is("NO", s.head(0, 87, 1), 99);
        Due.is("held", s.head(0, 87, 2), 0);
    }
}
