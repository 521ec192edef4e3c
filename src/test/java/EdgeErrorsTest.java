/** What the document says of ERRORS: which there are, in which order they are told, that they change nothing. */
public final class EdgeErrorsTest {
    private static final String ORDER = "Each act tells its ERRORS in the order in which they are asked;";
    private static final String NOTHING
        = "one that answers an ERROR changes nothing but what told() tells, or where told.";

    public static void main(String[] args) {
        numbers();
        quotients();
        orderOfStreet();
        orderOfWalkers();
        orderOfSounds();
        orderOfWalks();
        orderOfRest();
        streetStands();
        walkersStand();
        tapeStands();
        restStands();
        lastCalls();
        Due.end("EdgeErrorsTest");
    }

    private static void numbers() {
        String all = "LOW is -1000000; LOW - 1 BEYOND, LOW - 2 NONE, LOW - 3 STATE, LOW - 4 FULL, LOW - 5 KIND,"
            + " LOW - 6 PARTED.";
        ClickStreet s = Edge.of("ERRORS", all, "BEYOND");
        Due.is("at(192)", s.at(192), -1000001);
        s = Edge.of("ERRORS", all, "NONE");
        Due.is("trace(0)", s.trace(0), -1000002);
        s = Edge.of("ERRORS", all, "STATE");
        s.thing(0, 5);
        Due.is("thing(0, 5)", s.thing(0, 5), -1000003);
        s = Edge.of("ERRORS", all, "FULL");
        for (int i = 0; i < 8; i++) {
            s.walker(0, i, 0);
        }
        Due.is("walker(0, 8, 0)", s.walker(0, 8, 0), -1000004);
        s = Edge.of("ERRORS", all, "KIND");
        s.walker(0, 5, 0);
        Due.is("click(0)", s.click(0), -1000005);
        s = Edge.of("ERRORS", all, "PARTED");
        for (int i = 0; i < 4; i++) {
            s.walker(0, i, 0);
        }
        Due.is("voice(3, 3, 1)", s.voice(3, 3, 1), -1000006);
        s = Edge.of("ERRORS", "ERRORS are answers below -1000000:", "-1000000 is none");
        s.walker(0, 5, 0);
        Due.is("voice(0, 0, -1000005)", s.voice(0, 0, -1000005), -1000000);
        for (int k = 1; k <= 6; k++) {
            Due.is("told(" + k + ")", s.told(k), 0);
        }
    }

    private static void quotients() {
        ClickStreet s = Edge.of("ERRORS", "Quotients are cut.", "of a STRENGTH without a TEXT");
        s.walker(1, 80, 0);
        s.thing(0, 82);
        s.kind(0, 0, 33);
        // 59 * 33 / 50 is 38.94
        Due.is("STRENGTH", s.echo(0, 559, 2, 2), 38 - 4);
        s = Edge.of("ERRORS", "Quotients are cut.", "below 0 in a TEXT, towards 0");
        s.walker(1, 80, 0);
        s.thing(0, 82);
        Due.text(s, 0, "9+(0-7)/2");
        Due.is("9 - 3", s.echo(0, 560, 2, 2), 6);
        s = Edge.of("ERRORS", "Quotients are cut.", "rests below 0 in a TEXT");
        s.walker(1, 80, 0);
        s.thing(0, 82);
        Due.text(s, 0, "9+(0-7)%2");
        Due.is("9 - 1", s.echo(0, 560, 2, 2), 8);
        s = Edge.of("ERRORS", "Quotients are cut.", "half for an ear");
        s.walker(1, 80, 0);
        s.thing(0, 82);
        Due.text(s, 0, "7");
        Due.is("half of 7", s.echo(0, 560, 2, 3), 3);
        s = Edge.of("ERRORS", "Quotients are cut.", "of a VOICE below 0");
        s.walker(0, 1, 0);
        Due.is("-8 by -3", s.voice(0, 3, -8), 2);
        Due.is("8 by -3", s.voice(0, 3, 8), -2);
    }

    private static void orderOfStreet() {
        ClickStreet s = Edge.of("ERRORS", ORDER, "thing: BEYOND, STATE, FULL");
        for (int i = 0; i < 40; i++) {
            s.thing(0, i);
        }
        Due.is("all three", s.thing(5, 0), Due.BEYOND);
        Due.is("BEYOND, FULL", s.thing(0, 192), Due.BEYOND);
        Due.is("STATE, FULL", s.thing(0, 0), Due.STATE);
        Due.is("FULL", s.thing(0, 40), Due.FULL);
        s = Edge.of("ERRORS", ORDER, "moves: BEYOND, KIND, STATE");
        s.thing(1, 7);
        s.away(0);
        Due.is("all three: SIDE", s.moves(0, 8, 1), Due.BEYOND);
        Due.is("all three: STEP", s.moves(0, 0, 21), Due.BEYOND);
        Due.is("KIND, STATE", s.moves(0, 0, 1), Due.KIND);
        s = Edge.of("ERRORS", ORDER, "lays: BEYOND, NONE");
        Due.is("y 12, missing", s.lays(0, 12), Due.BEYOND);
        s = Edge.of("ERRORS", ORDER, "lays: BEYOND, KIND, STATE");
        s.sheet(0, 16, 17);
        Due.is("all three", s.lays(0, 12), Due.BEYOND);
        Due.is("KIND, STATE", s.lays(0, 0), Due.KIND);
    }

    private static void orderOfWalkers() {
        ClickStreet s = Edge.of("ERRORS", ORDER, "walker: BEYOND, STATE, FULL");
        for (int i = 0; i < 8; i++) {
            s.walker(0, i, 0);
        }
        Due.is("all three", s.walker(8, 0, 0), Due.BEYOND);
        Due.is("BEYOND, STATE, FULL by a SIDE", s.walker(0, 0, 8), Due.BEYOND);
        Due.is("STATE, FULL", s.walker(0, 0, 0), Due.STATE);
        s = Edge.of("ERRORS", ORDER, "as: BEYOND, KIND");
        s.walker(0, 0, 0);
        Due.is("KIND 8", s.as(0, 8), Due.BEYOND);
    }

    private static void orderOfSounds() {
        ClickStreet s = Edge.of("ERRORS", ORDER, "feed: BEYOND, FULL");
        for (int i = 0; i < 6; i++) {
            s.feed(0, 8);
        }
        Due.is("9 more", s.feed(0, 9), Due.BEYOND);
        Due.is("8 more", s.feed(0, 8), Due.FULL);
        s = Edge.of("ERRORS", ORDER, "echo: BEYOND, NONE");
        s.walker(1, 0, 0);
        Due.is("what 6, no ECHO", s.echo(0, 560, 0, 6), Due.BEYOND);
        Due.is("PITCH 0, no ECHO", s.echo(0, 60, 0, 0), Due.BEYOND);
        s = Edge.of("ERRORS", ORDER, "least: BEYOND, NONE");
        s.walker(0, 0, 0);
        Due.is("what 2, YARDS above REACH", s.least(0, 0, 4, 2), Due.BEYOND);
        Due.is("YARDS above REACH", s.least(0, 0, 4, 1), Due.NONE);
        s = Edge.of("ERRORS", ORDER, "farthest: BEYOND, NONE");
        s.walker(4, 0, 0);
        Due.is("LOUDNESS 0, no REACH", s.farthest(0, 0, 500), Due.BEYOND);
        Due.is("no REACH", s.farthest(0, 0, 560), Due.NONE);
        s = Edge.of("ERRORS", ORDER, "spots: BEYOND, NONE");
        s.walker(1, 0, 0);
        Due.is("k 4, missing", s.spots(0, 0, 4, 0), Due.BEYOND);
        Due.is("what 2, missing", s.spots(0, 0, 1, 2), Due.BEYOND);
        s = Edge.of("ERRORS", ORDER, "spots: BEYOND, KIND, STATE");
        s.walker(1, 9, 0);
        Due.sheet(s, 0, 16, 9, 9);
        Due.is("all three", s.spots(0, 0, 0, 0), Due.BEYOND);
        Due.is("KIND, STATE", s.spots(0, 0, 1, 0), Due.KIND);
    }

    private static void orderOfWalks() {
        ClickStreet s = Edge.of("ERRORS", ORDER, "tenths: BEYOND, STATE");
        for (int i = 0; i < 99; i++) {
            s.tenths(100);
        }
        s.tenths(99);
        Due.is("101 at 9999", s.tenths(101), Due.BEYOND);
        Due.is("0 at 9999", s.tenths(0), Due.BEYOND);
        Due.is("1 at 9999", s.tenths(1), Due.STATE);
        s = Edge.of("ERRORS", ORDER, "way: BEYOND, NONE");
        s.walker(0, 0, 0);
        Due.is("CELL 192, 1000 steps", s.way(0, 192, 1000), Due.BEYOND);
        s = Edge.of("ERRORS", ORDER, "lesson: BEYOND, FULL");
        for (int i = 0; i < 7; i++) {
            s.lesson(1, 0, 1);
        }
        Due.is("minutes 0", s.lesson(1, 0, 0), Due.BEYOND);
        Due.is("minutes 1", s.lesson(1, 0, 1), Due.FULL);
        s = Edge.of("ERRORS", ORDER, "learn: BEYOND, NONE");
        Due.is("what -3, there is none", s.learn(0, 1, -3), Due.BEYOND);
        Due.is("known 32, there is none", s.learn(32, 1, 0), Due.BEYOND);
        s = Edge.of("ERRORS", ORDER, "posts: BEYOND, NONE, KIND");
        s.walker(1, 0, 0);
        s.sheet(0, 16, 0);
        Due.is("all three", s.posts(0, 0, 1, 2), Due.BEYOND);
        Due.is("NONE, KIND", s.posts(0, 0, 1, 0), Due.NONE);
        Due.is("NONE, KIND, the other way round", s.posts(0, 1, 0, 0), Due.NONE);
        s = Edge.of("ERRORS", ORDER, "posts: KIND, STATE");
        s.walker(1, 0, 0);
        Due.sheet(s, 0, 16, 5, 192);
        Due.sheet(s, 1, 16, 5);
        Due.is("KIND", s.posts(0, 0, 1, 0), Due.KIND);
        Due.is("KIND of the other", s.posts(0, 1, 0, 0), Due.KIND);
    }

    private static void orderOfRest() {
        ClickStreet s = Edge.of("ERRORS", ORDER, "voice: BEYOND, PARTED");
        for (int i = 0; i < 4; i++) {
            s.walker(0, i, 0);
        }
        Due.is("act 4 of the one that parts", s.voice(3, 4, 1), Due.BEYOND);
        s = Edge.of("ERRORS", ORDER, "sheet: BEYOND, STATE, BEYOND");
        Due.is("bits 9, n -1", s.sheet(0, 9, -1), Due.BEYOND);
        Due.is("SHEET 4, n -1", s.sheet(4, 8, -1), Due.BEYOND);
        Due.is("n -1", s.sheet(0, 8, -1), Due.STATE);
        s = Edge.of("ERRORS", ORDER, "put: BEYOND, NONE, BEYOND");
        Due.is("no such SHEET, no such number", s.put(4, 24, 1), Due.BEYOND);
        Due.is("missing, no such number", s.put(0, 24, 1), Due.NONE);
        s = Edge.of("ERRORS", ORDER, "move: BEYOND, NONE, KIND, BEYOND");
        s.sheet(1, 8, 2);
        s.sheet(2, 16, 2);
        Due.is("no such SHEET, one is missing", s.move(0, 0, 4, 0, 1), Due.BEYOND);
        Due.is("one is missing, n -1", s.move(0, 0, 1, 0, -1), Due.NONE);
        Due.is("the other is missing, n -1", s.move(1, 0, 0, 0, -1), Due.NONE);
        Due.is("unlike bits, n -1", s.move(1, 0, 2, 0, -1), Due.KIND);
        Due.is("n -1", s.move(1, 0, 1, 0, -1), Due.BEYOND);
    }

    private static void streetStands() {
        ClickStreet s = Edge.of("ERRORS", NOTHING, "thing");
        s.walker(0, 7, 0);
        s.thing(5, 3);
        s.thing(0, 7);
        Due.is("no THING in 3", s.at(3), -1);
        Due.is("the WALKER in 7", s.at(7), 100);
        Due.is("THINGS", s.count(1), 0);
        Due.is("the next number", s.thing(0, 3), 0);
        s = Edge.of("ERRORS", NOTHING, "moves");
        s.thing(3, 20);
        s.thing(0, 30);
        s.moves(0, 2, 3);
        s.moves(0, 8, 1);
        s.moves(0, 1, 21);
        s.moves(1, 5, 5);
        Due.is("SIDE", s.thingIs(0, 2), 2);
        Due.is("STEP", s.thingIs(0, 3), 3);
        Due.is("SIDE of a WALL", s.thingIs(1, 2), 0);
        Due.is("STEP of a WALL", s.thingIs(1, 3), 0);
        s.away(0);
        s.moves(0, 5, 5);
        Due.is("STEP of one that is away", s.thingIs(0, 3), 3);
        s = Edge.of("ERRORS", NOTHING, "kind");
        s.kind(0, 0, 100);
        s.kind(0, 1, 10);
        Due.is("LOUD", s.kind(0, 0, 1), 50);
        Due.is("SHARP", s.kind(0, 1, 1), 0);
        s = Edge.of("ERRORS", NOTHING, "air");
        s.air(0, 100);
        s.air(1, 91);
        s.air(2, 2);
        Due.is("NOISE", s.air(0, 1), 5);
        Due.is("MASK", s.air(1, 1), 9);
        Due.is("SNOW", s.air(2, 1), 0);
        s = Edge.of("ERRORS", NOTHING, "lays");
        s.sheet(0, 8, 17);
        for (int i = 0; i < 17; i++) {
            s.put(0, i, 1);
        }
        s.lays(0, 0);
        Due.is("THINGS", s.count(1), 0);
        s.sheet(0, 16, 1);
        s.put(0, 0, 1);
        s.lays(0, 0);
        Due.is("THINGS", s.count(1), 0);
    }

    private static void walkersStand() {
        ClickStreet s = Edge.of("ERRORS", NOTHING, "walker");
        s.thing(0, 7);
        s.walker(0, 7, 0);
        s.walker(0, 8, 8);
        s.walker(8, 8, 0);
        Due.is("WALKERS", s.count(2), 0);
        Due.is("the THING in 7", s.at(7), 0);
        Due.is("nothing in 8", s.at(8), -1);
        Due.is("the next number", s.walker(0, 8, 0), 0);
        s = Edge.of("ERRORS", NOTHING, "habit");
        s.walker(1, 7, 0);
        s.habit(0, 1, 1, 31);
        s.habit(0, 1, 0, 1);
        s.habit(0, 0, 1, 1);
        Due.is("PITCH", s.walkerIs(0, 3), 5);
        Due.is("LOUDNESS", s.walkerIs(0, 4), 60);
        Due.is("EVERY", s.walkerIs(0, 5), 0);
        s = Edge.of("ERRORS", NOTHING, "face, goes");
        s.walker(1, 7, 3);
        s.face(0, 8);
        s.goes(1, true);
        Due.is("SIDE", s.walkerIs(0, 2), 3);
        Due.is("GOES", s.walkerIs(0, 6), 0);
        s = Edge.of("ERRORS", NOTHING, "click");
        s.walker(2, 80, 0);
        s.thing(0, 81);
        s.air(1, 0);
        s.click(0);
        Due.is("CLICKS", s.walkerIs(0, 8), 0);
        Due.is("HEAD", s.heads(0, 0), 192);
        s = Edge.of("ERRORS", NOTHING, "tenths");
        s.walker(0, 80, 2);
        s.goes(0, true);
        s.tenths(0);
        s.tenths(101);
        Due.is("NOW", s.count(0), 0);
        Due.is("CELL", s.walkerIs(0, 1), 80);
        s = Edge.of("ERRORS", NOTHING, "tenths that would end above 9999");
        s.walker(0, 80, 2);
        for (int i = 0; i < 99; i++) {
            s.tenths(100);
        }
        s.goes(0, true);
        s.tenths(100);
        Due.is("NOW", s.count(0), 9900);
        Due.is("CELL", s.walkerIs(0, 1), 80);
    }

    private static void tapeStands() {
        ClickStreet s = Edge.of("ERRORS", NOTHING, "feed");
        for (int i = 0; i < 5; i++) {
            s.feed(0x2020202020202020L, 8);
        }
        s.feed(0x2020202020202031L, 7);
        s.feed(0x3131, 2);
        s.feed(0x31, 0);
        Due.is("bytes", s.count(4), 47);
        Due.is("text", s.text(0), 1);
        s = Edge.of("ERRORS", NOTHING, "text");
        s.feed('7', 1);
        s.text(3);
        Due.is("bytes", s.count(4), 1);
        s = Edge.of("ERRORS", NOTHING, "lesson");
        s.lesson(1, 0, 100);
        Due.is("LESSONS", s.count(3), 0);
        Due.is("the next number", s.lesson(1, 0, 99), 0);
        s = Edge.of("ERRORS", NOTHING, "voice: BEYOND");
        s.walker(0, 7, 0);
        s.voice(0, 1, 1);
        s.voice(0, 4, 1);
        s.voice(1, 0, 1);
        Due.is("BODIES", s.count(6), 2);
        Due.is("the first", s.trace(0), 11);
        s = Edge.of("ERRORS", NOTHING, "voice: PARTED");
        for (int i = 0; i < 4; i++) {
            s.walker(i == 3 ? 7 : 0, i, 0);
        }
        s.voice(0, 1, 1);
        s.voice(3, 3, 1);
        Due.is("BODIES", s.count(6), 2);
        Due.is("the first", s.trace(0), 11);
    }

    private static void restStands() {
        ClickStreet s = Edge.of("ERRORS", NOTHING, "sheet");
        Due.sheet(s, 0, 8, 1, 1);
        s.sheet(0, 9, 1);
        s.sheet(0, 8, 25);
        s.sheet(0, 8, -1);
        Due.is("it stands", s.lays(0, 0), 2);
        s = Edge.of("ERRORS", NOTHING, "put");
        Due.sheet(s, 0, 8, 0, 0);
        s.put(0, 2, 1);
        s.put(0, -1, 1);
        Due.is("all 0", s.lays(0, 0), 0);
        s = Edge.of("ERRORS", NOTHING, "move");
        Due.sheet(s, 0, 8, 1, 1, 1);
        s.sheet(1, 8, 2);
        s.move(0, 0, 1, 0, 3);
        s.move(0, 1, 1, 1, 2);
        s.move(0, 2, 1, 0, 2);
        Due.is("none came", s.lays(1, 0), 0);
        s = Edge.of("ERRORS", NOTHING, "restore");
        s.walker(0, 7, 0);
        s.tenths(3);
        s.restore();
        Due.is("NOW", s.count(0), 3);
        Due.is("WALKERS", s.count(2), 1);
        s = Edge.of("ERRORS", NOTHING, "tell");
        s.walker(0, 100, 0);
        for (int i = 0; i < 24; i++) {
            s.tell(100);
        }
        s.tell(7);
        Due.is("they wait", s.count(5), 24);
        Due.is("all are", s.check(0), 0);
        s = Edge.of("ERRORS", NOTHING, "check: but where told");
        s.tell(7);
        s.check(0);
        Due.is("none waits", s.count(5), 0);
        s = Edge.of("ERRORS", NOTHING, "what asks");
        s.walker(1, 100, 3);
        s.click(1);
        s.echo(0, 560, 8, 0);
        s.alike(0, 560, 13, 0, 1);
        s.spots(0, 0, 1, 0);
        s.posts(0, 0, 0, 0);
        s.way(0, 192, 0);
        s.learn(0, 1, 0);
        Due.is("CLICKS", s.count(8), 0);
        Due.is("CELL", s.walkerIs(0, 1), 100);
        Due.is("HEAD", s.heads(0, 0), 192);
        Due.is("BEYOND", s.told(1), 4);
        Due.is("NONE", s.told(2), 3);
    }

    private static void lastCalls() {
        ClickStreet s = Edge.of("What it is", "An object is used for at most 512 calls after it has been made;",
            "the 512th");
        s.walker(1, 80, 2);
        s.goes(0, true);
        for (int i = 0; i < 508; i++) {
            s.tenths(1);
        }
        Due.is("511 calls", s.count(0), 508);
        Due.is("the 512th", s.tenths(100), 608);
        s = Edge.of("What it is", "what later calls answer is free.", "none throws, all end");
        for (int i = 0; i < 3000; i++) {
            s.walker(i % 8, i % 192, i % 8);
            s.tenths(100);
            s.thing(i % 5, i % 192);
            s.click(i % 8);
            s.tell(i);
            s.feed(i, 8);
            s.image();
        }
        Due.is("an answer", s.at(192), Due.BEYOND);
    }
}
