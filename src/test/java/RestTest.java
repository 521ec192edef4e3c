/** Promises 32 to 42: voices, sheets, images, what is told. */
public final class RestTest {
    public static void main(String[] args) {
        voices();
        bodies();
        parted();
        wraps();
        sheets();
        numbersOfBits();
        moves();
        images();
        freshAfterRestore();
        tells();
        checks();
        counts();
        told();
        Due.end("RestTest");
    }

    private static void voiceIs(ClickStreet s, int walker, int act, int x, int due, int... trace) {
        String call = "voice(" + walker + ", " + act + ", " + x + ")";
        Due.is(call, s.voice(walker, act, x), due);
        Due.is(call + ": BODIES", s.count(6), trace.length);
        for (int i = 0; i < trace.length; i++) {
            Due.is(call + ": trace(" + i + ")", s.trace(i), trace[i]);
        }
        Due.is(call + ": behind", s.trace(trace.length), Due.NONE);
    }

    private static void voices() {
        ClickStreet s = new ClickStreet();
        s.walker(0, 0, 0);
        Due.is("nothing said", s.count(6), 0);
        Due.is("nothing said", s.trace(0), Due.NONE);
        Due.is("trace(-1)", s.trace(-1), Due.NONE);
        Due.is("act 4", s.voice(0, 4, 1), Due.BEYOND);
        Due.is("act -1", s.voice(0, -1, 1), Due.BEYOND);
        Due.is("walker 1", s.voice(1, 0, 1), Due.BEYOND);
        Due.is("walker -1", s.voice(-1, 0, 1), Due.BEYOND);
        voiceIs(s, 0, 0, 7, 12, 10);
        Due.is("BEYOND", s.voice(0, 4, 1), Due.BEYOND);
        Due.is("the trace stands", s.trace(0), 10);
        Due.is("trace(-1)", s.trace(-1), Due.NONE);
        s.habit(0, 9, 1, 0);
        voiceIs(s, 0, 0, 7, 16, 10);
    }

    /** One walker of each kind, its number its kind; PITCH 5. */
    private static void bodies() {
        ClickStreet s = new ClickStreet();
        for (int kind = 0; kind < 8; kind++) {
            s.walker(kind, 20 * kind, 0);
        }
        // WALKER 0
        voiceIs(s, 0, 0, 4, 9, 10);
        voiceIs(s, 0, 1, 4, 18, 11, 10);
        voiceIs(s, 0, 2, 4, 18, 12, 11, 10);
        voiceIs(s, 0, 3, 7, -2, 13);
        // CLICKING 1
        voiceIs(s, 1, 0, 4, 27, 20, 10);
        voiceIs(s, 1, 1, 4, 54, 11, 20, 10);
        voiceIs(s, 1, 2, 4, 53, 12, 11, 20, 10);
        voiceIs(s, 1, 3, 7, -3 + 35, 21, 13, 12, 11, 20, 10);
        // TAPPING 2
        voiceIs(s, 2, 0, 4, 9, 10);
        voiceIs(s, 2, 1, 4, 18 ^ 5, 30, 11, 10);
        voiceIs(s, 2, 2, 4, (18 ^ 5) - 2, 12, 30, 11, 10);
        voiceIs(s, 2, 3, 7, -7, 13);
        // LISTENING 3
        voiceIs(s, 3, 0, 4, -9, 40, 10);
        voiceIs(s, 3, 1, 4, -18, 11, 40, 10);
        voiceIs(s, 3, 2, 4, -18 - 3 + 5, 41, 12, 11, 40, 10);
        // LED 4
        voiceIs(s, 4, 0, 4, 9, 10);
        voiceIs(s, 4, 1, 4, 18, 11, 10);
        voiceIs(s, 4, 2, 4, 16 - 4, 50, 12, 11, 10);
        voiceIs(s, 4, 3, 7, 7, 13);
        // NEW 5, under CLICKING
        voiceIs(s, 5, 0, 4, 27, 20, 10);
        voiceIs(s, 5, 1, 4, 66, 60, 11, 20, 10);
        voiceIs(s, 5, 2, 4, 66 - 5, 12, 60, 11, 20, 10);
        voiceIs(s, 5, 3, 7, 3 + (1 + 2 + 5) * 3 * 2 - 5, 21, 13, 12, 60, 11, 20, 10);
        // OLD 6, under LISTENING
        voiceIs(s, 6, 0, 4, -9, 40, 10);
        voiceIs(s, 6, 1, 4, -9, 70, 11, 40, 10);
        voiceIs(s, 6, 1, -4, -1, 70, 11, 40, 10);
        voiceIs(s, 6, 2, 4, -9 - 6 + 5 + 7, 71, 41, 12, 70, 11, 40, 10, 40, 10);
        voiceIs(s, 6, 3, 7, 2, 13);
        // RIDING 7, under CLICKING
        voiceIs(s, 7, 0, 4, 27, 20, 10);
        voiceIs(s, 7, 1, 4, 54, 11, 20, 10);
        voiceIs(s, 7, 2, 4, 47, 12, 11, 20, 10);
        voiceIs(s, 7, 3, 9, 2 + 29 - 84, 80, 21, 13, 12, 11, 20, 10, 11, 20, 10);
    }

    private static void parted() {
        int[] kinds = {0, 1, 2, 3, 4, 5, 6, 7};
        for (int kind : kinds) {
            ClickStreet s = new ClickStreet();
            for (int i = 0; i < 3; i++) {
                s.walker(0, i, 0);
            }
            s.walker(kind, 100, 0);
            voiceIs(s, 0, 1, 4, 18, 11, 10);
            Due.is("PARTED as " + kind, s.voice(3, 3, 9), Due.PARTED);
            Due.is("told", s.told(6), 1);
            Due.is("the trace stands", s.count(6), 2);
            Due.is("the trace stands", s.trace(0), 11);
            Due.is("other acts are not PARTED", s.voice(3, 0, 4) > Due.PARTED ? 1 : 0, 1);
            Due.is("nor other walkers", s.voice(2, 3, 4), -4);
            Due.is("0 by 0", s.voice(3, 3, 0), Due.PARTED);
        }
    }

    private static void wraps() {
        ClickStreet s = new ClickStreet();
        for (int i = 0; i < 3; i++) {
            s.walker(i == 1 ? 1 : 0, i, 0);
        }
        int max = Integer.MAX_VALUE;
        int min = Integer.MIN_VALUE;
        Due.is("x + p", s.voice(0, 0, max), min + 4);
        Due.is("* 2", s.voice(0, 1, max), 8);
        Due.is("* 3", s.voice(1, 0, max), 3 * (min + 4));
        Due.is("by -1", s.voice(2, 3, min), min);
        Due.is("by -3, cut", s.voice(0, 3, -8), 2);
    }

    private static void sheets() {
        ClickStreet s = new ClickStreet();
        for (int bits : new int[] {8, 16, 32}) {
            Due.is("bits", s.sheet(3, bits, 24), 1);
            Due.is("the last", s.put(3, 23, -7), 1);
            Due.is("behind", s.put(3, 24, 1), Due.BEYOND);
            Due.is("ahead", s.put(3, -1, 1), Due.BEYOND);
            Due.is("25", s.sheet(3, bits, 25), Due.BEYOND);
            Due.is("-1", s.sheet(3, bits, -1), Due.STATE);
            Due.is("far below", s.sheet(3, bits, Integer.MIN_VALUE), Due.STATE);
            Due.is("it stands", s.put(3, 23, 1), 1);
        }
        Due.is("bits 9", s.sheet(0, 9, 1), Due.BEYOND);
        Due.is("bits -8", s.sheet(0, -8, 1), Due.BEYOND);
        Due.is("bits 64, ahead of n", s.sheet(0, 64, -1), Due.BEYOND);
        Due.is("SHEET 4", s.sheet(4, 8, 1), Due.BEYOND);
        Due.is("SHEET -1", s.sheet(-1, 8, 1), Due.BEYOND);
        Due.is("SHEET 4, no bits", s.sheet(4, 0, 1), Due.BEYOND);
        Due.is("missing at first", s.put(0, 0, 1), Due.NONE);
        Due.is("no numbers", s.sheet(0, 8, 0), 1);
        Due.is("none to put", s.put(0, 0, 1), Due.BEYOND);
        Due.is("missing, n of no matter", s.sheet(3, 0, -5), 1);
        Due.is("missing", s.put(3, 0, 1), Due.NONE);
        Due.is("missing ahead of no such number", s.put(3, 99, 1), Due.NONE);
        Due.is("no such SHEET", s.put(4, 0, 1), Due.BEYOND);
        Due.is("no such SHEET", s.put(-1, 0, 1), Due.BEYOND);
        // a new SHEET is all 0
        Due.sheet(s, 1, 8, 1, 2, 3);
        s.sheet(1, 8, 3);
        Due.is("all 0", s.lays(1, 0), 0);
    }

    /** What a number is shows by what is laid, or by whether it is a CELL. */
    private static void numbersOfBits() {
        ClickStreet s = new ClickStreet();
        s.walker(1, 0, 0);
        int[] eight = {1, 257, 0x7FFFFF01, -255, 0};
        Due.sheet(s, 0, 8, eight);
        Due.is("the lowest 8 bits", s.lays(0, 5), 4);
        Due.sheet(s, 0, 16, 65536 + 100);
        Due.is("the lowest 16 bits", s.spots(0, 0, 1, 1), 1);
        Due.sheet(s, 0, 16, 356);
        Due.is("more than 8 bits", s.spots(0, 0, 1, 1), Due.KIND);
        Due.sheet(s, 0, 32, 65536 + 100);
        Due.is("32 bits", s.spots(0, 0, 1, 1), Due.KIND);
        Due.sheet(s, 0, 32, 100);
        Due.is("32 bits", s.spots(0, 0, 1, 1), 1);
        Due.sheet(s, 0, 8, 100);
        Due.is("8 bits", s.spots(0, 0, 1, 1), 1);
    }

    private static void moves() {
        ClickStreet s = new ClickStreet();
        Due.is("SHEET 4", s.move(4, 0, 0, 0, 0), Due.BEYOND);
        Due.is("SHEET -1", s.move(-1, 0, 0, 0, 0), Due.BEYOND);
        Due.is("other 4, ahead of NONE", s.move(0, 0, 4, 0, 0), Due.BEYOND);
        Due.is("other -1", s.move(0, 0, -1, 0, 0), Due.BEYOND);
        Due.is("missing", s.move(0, 0, 0, 0, 0), Due.NONE);
        Due.sheet(s, 0, 8, 1, 2, 3, 4, 5);
        Due.is("the other is missing", s.move(0, 0, 1, 0, 0), Due.NONE);
        Due.is("the first is missing", s.move(1, 0, 0, 0, 0), Due.NONE);
        s.sheet(1, 16, 5);
        Due.is("unlike bits", s.move(0, 0, 1, 0, 1), Due.KIND);
        Due.is("unlike bits, ahead of n", s.move(0, 0, 1, 0, -1), Due.KIND);
        s.sheet(1, 8, 3);
        Due.is("n -1", s.move(0, 0, 1, 0, -1), Due.BEYOND);
        Due.is("i -1", s.move(0, -1, 1, 0, 1), Due.BEYOND);
        Due.is("j -1", s.move(0, 0, 1, -1, 1), Due.BEYOND);
        Due.is("i too far", s.move(0, 3, 1, 0, 3), Due.BEYOND);
        Due.is("j too far", s.move(0, 0, 1, 1, 3), Due.BEYOND);
        Due.is("far too many", s.move(0, 1, 1, 1, Integer.MAX_VALUE), Due.BEYOND);
        Due.is("i far too far", s.move(0, Integer.MAX_VALUE, 1, 0, 1), Due.BEYOND);
        Due.is("j far too far", s.move(0, 0, 1, Integer.MAX_VALUE, 1), Due.BEYOND);
        Due.is("none, at the end", s.move(0, 5, 1, 3, 0), 0);
        Due.is("none, behind the end", s.move(0, 6, 1, 3, 0), Due.BEYOND);
        Due.is("none moved", s.lays(1, 0), 0);
        Due.is("three", s.move(0, 2, 1, 0, 3), 3);
        isLaid(s, 1, 2, 3, 4);
        isLaid(s, 0, 0, 1, 2, 3, 4);
        Due.is("on", s.move(0, 0, 0, 1, 4), 4);
        isLaid(s, 0, 0, 0, 1, 2, 3);
        Due.is("back", s.move(0, 2, 0, 0, 3), 3);
        isLaid(s, 0, 1, 2, 3, 2, 3);
    }

    /** The KINDS of the THINGS that a SHEET lays, on a row that is then cleared. */
    private static void isLaid(ClickStreet s, int sheet, int... kinds) {
        int from = 0;
        while (s.thingIs(from, 0) != Due.BEYOND) {
            from++;
        }
        Due.is("laid", s.lays(sheet, 7), kinds.length);
        for (int i = 0; i < kinds.length; i++) {
            Due.is("KIND laid", s.thingIs(from + i, 0), kinds[i]);
            s.away(from + i);
        }
    }

    private static void images() {
        ClickStreet s = new ClickStreet();
        Due.is("none", s.restore(), Due.NONE);
        s.walker(1, 85, 3);
        s.habit(0, 4, 70, 2);
        s.thing(3, 80);
        s.thing(0, 82);
        s.moves(0, 2, 1);
        s.kind(0, 0, 60);
        s.kind(0, 1, 2);
        s.air(0, 7);
        s.air(1, 10);
        s.air(2, 1);
        Due.text(s, 0, "l");
        Due.text(s, 1, "s>1");
        Due.text(s, 2, "1");
        s.lesson(1, 0, 5);
        s.tell(1);
        s.tell(2);
        s.feed('f', 1);
        s.tenths(2);
        s.click(0);
        Due.sheet(s, 0, 8, 1);
        Due.is("the first", s.image(), 1);

        s.walker(2, 0, 0);
        s.face(0, 7);
        s.habit(0, 9, 1, 7);
        s.goes(0, true);
        s.thing(0, 190);
        s.away(1);
        s.moves(0, 6, 3);
        s.kind(0, 0, 1);
        s.kind(0, 1, 1);
        s.air(0, 1);
        s.air(1, 1);
        s.air(2, 0);
        s.text(2);
        Due.text(s, 0, "1");
        Due.text(s, 1, "0");
        s.lesson(2, 0, 5);
        s.tell(3);
        s.tenths(10);
        s.click(0);
        s.voice(0, 0, 1);
        Due.sheet(s, 0, 8, 1, 1);
        s.told(9);
        int beyond = s.told(1);

        Due.is("NOW", s.restore(), 2);
        Due.is("NOW", s.count(0), 2);
        Due.is("THINGS", s.count(1), 2);
        Due.is("WALKERS", s.count(2), 1);
        Due.is("LESSONS", s.count(3), 1);
        Due.is("THE TAPE", s.count(4), 1);
        Due.is("waiting", s.count(5), 2);
        Due.is("the trace stands", s.count(6), 2);
        Due.is("BUMPS", s.count(7), 0);
        Due.is("CLICKS", s.count(8), 1);
        Due.is("told stands", s.told(1), beyond);
        int[] walker = {1, 85, 3, 4, 70, 2, 0, 0, 1, 12, 1, 9};
        for (int what = 0; what < 12; what++) {
            Due.is("walkerIs " + what, s.walkerIs(0, what), walker[what]);
        }
        Due.is("the MAN", s.thingIs(0, 1), 81);
        Due.is("its SIDE", s.thingIs(0, 2), 6);
        Due.is("its STEP", s.thingIs(0, 3), 1);
        Due.is("at", s.at(81), 0);
        Due.is("at", s.at(82), 1);
        Due.is("at", s.at(190), -1);
        Due.is("at", s.at(0), -1);
        Due.is("YES", s.head(0, 82, 0), 1);
        Due.is("NO", s.head(0, 83, 1), 1);
        Due.is("LOUD", s.kind(0, 0, 60), 60);
        Due.is("SHARP", s.kind(0, 1, 2), 2);
        Due.is("NOISE", s.air(0, 7), 7);
        Due.is("MASK", s.air(1, 10), 10);
        Due.is("SNOW", s.air(2, 0), 1);
        Due.is("TEXT 0, TEXT 1", s.echo(0, 470, 6, 2), 70);
        Due.is("TEXT 1", s.echo(0, 470, 6, 5), 1);
        Due.is("the SHEET stands", s.put(0, 1, 0), 1);
        Due.is("the lesson", s.learn(0, 2, -1), Due.NONE);
        Due.is("what THE TAPE holds", s.text(2), 1);
        s.goes(0, true);
        s.tenths(1);
        Due.is("the other again", s.restore(), 2);
        s.goes(0, true);
        s.tenths(1);
        Due.is("TEXT 2", s.walkerIs(0, 2), 4);
        Due.is("the MAN goes on", s.thingIs(0, 1), 80);

        Due.is("the second", s.image(), 2);
        s.tenths(5);
        Due.is("in place of the one ahead", s.restore(), 3);
        Due.is("it stays", s.restore(), 3);
        Due.is("the third", s.image(), 3);
    }

    /** What comes behind a restore() is as new, whatever bore its number ahead. */
    private static void freshAfterRestore() {
        ClickStreet s = new ClickStreet();
        s.image();
        s.walker(1, 20, 2);
        s.thing(3, 23);
        s.moves(0, 5, 20);
        s.habit(0, 9, 99, 1);
        s.goes(0, true);
        s.tenths(6);
        Due.is("made some CLICKS", s.walkerIs(0, 8), 6);
        Due.is("held some FREE", s.head(0, 22, 1) > 0 ? 1 : 0, 1);
        Due.text(s, 2, "0");
        s.tenths(20);
        Due.is("made a BUMP", s.walkerIs(0, 7) > 0 ? 1 : 0, 1);
        s.restore();
        Due.is("no walkers", s.walkerIs(0, 0), Due.BEYOND);
        Due.is("no things", s.thingIs(0, 0), Due.BEYOND);
        s.walker(1, 20, 3);
        int[] due = {1, 20, 3, 5, 60, 0, 0, 0, 0};
        for (int what = 0; what < due.length; what++) {
            Due.is("walkerIs " + what, s.walkerIs(0, what), due[what]);
        }
        for (int cell = 0; cell < 192; cell++) {
            Due.is("YES", s.head(0, cell, 0), 0);
            Due.is("NO", s.head(0, cell, 1), 0);
        }
        s.thing(4, 25);
        Due.is("KIND", s.thingIs(0, 0), 4);
        Due.is("SIDE", s.thingIs(0, 2), 0);
        Due.is("STEP", s.thingIs(0, 3), 0);
    }

    private static void tells() {
        ClickStreet s = new ClickStreet();
        for (int i = 1; i <= 24; i++) {
            Due.is("how many", s.tell(-i), i);
        }
        Due.is("the 25th", s.tell(1), Due.FULL);
        Due.is("waiting", s.count(5), 24);
    }

    private static void checks() {
        ClickStreet s = new ClickStreet();
        Due.is("no walker", s.check(0), Due.BEYOND);
        s.walker(0, 100, 0);
        s.goes(0, true);
        Due.is("none wait", s.check(0), 0);
        s.tell(84);
        s.tell(68);
        Due.is("all are", s.check(0), 0);
        Due.is("none wait then", s.count(5), 0);
        Due.is("nothing changed", s.count(0), 0);
        Due.is("nothing changed", s.walkerIs(0, 1), 100);
        s.tell(100);
        Due.is("the first is not", s.check(0), 1);
        s.tell(84);
        s.tell(84);
        s.tell(52);
        Due.is("the second is not", s.check(0), 2);
        s.tell(1);
        s.tell(2);
        Due.is("BEYOND", s.check(1), Due.BEYOND);
        Due.is("none wait then, too", s.count(5), 0);
        s.tell(1);
        Due.is("BEYOND", s.check(-1), Due.BEYOND);
        Due.is("none wait then, too", s.count(5), 0);
        // all that goes by in a tenth is in it
        s.thing(3, Due.cell(6, 4));
        s.moves(0, 6, 1);
        s.walker(7, Due.cell(0, 4), 2);
        s.goes(1, true);
        s.habit(1, 5, 60, 1);
        s.tell(Due.cell(2, 4));
        s.tell(Due.cell(3, 4));
        s.tell(Due.cell(3, 4));
        Due.is("with a BUMP, and a turn", s.check(1), 0);
        Due.is("no BUMPS", s.count(7), 0);
        Due.is("no CLICKS", s.count(8), 0);
        Due.is("nothing held", s.heads(1, 0), 192);
        Due.is("no SIDE", s.walkerIs(1, 2), 2);
        Due.is("no THING", s.thingIs(0, 1), Due.cell(6, 4));
        s.tenths(3);
        Due.is("as it was checked", s.walkerIs(1, 1), Due.cell(3, 4));
        // what is loud and what is too weak is in it
        s = new ClickStreet();
        s.walker(1, 0, 2);
        s.walker(0, 40, 2);
        s.thing(4, 3);
        s.thing(1, 8);
        s.kind(0, 0, 0);
        s.habit(0, 5, 60, 1);
        s.goes(0, true);
        Due.text(s, 2, "[f=3?2:0]");
        s.tell(0);
        s.tell(16);
        Due.is("a BUS is heard", s.check(0), 0);
        // TENTHS above 9999
        s = new ClickStreet();
        s.walker(0, 190, 6);
        for (int i = 0; i < 99; i++) {
            s.tenths(100);
        }
        s.tenths(99);
        s.goes(0, true);
        for (int i = 1; i <= 14; i++) {
            s.tell(190 - i);
        }
        Due.is("above 9999", s.check(0), 0);
        Due.text(s, 2, "[t>9999?0:2]");
        s.tell(189);
        Due.is("NOW is above 9999", s.check(0), 0);
        Due.is("NOW", s.count(0), 9999);
    }

    private static void counts() {
        ClickStreet s = new ClickStreet();
        Due.is("what 9", s.count(9), Due.BEYOND);
        Due.is("what -1", s.count(-1), Due.BEYOND);
        s.walker(1, 0, 0);
        s.walker(7, 1, 0);
        s.thing(0, 50);
        s.thing(0, 51);
        s.away(0);
        s.goes(0, true);
        s.goes(1, true);
        s.habit(0, 5, 60, 1);
        s.tenths(3);
        s.click(1);
        s.lesson(1, 1, 1);
        s.feed(0, 5);
        s.tell(7);
        s.voice(0, 2, 1);
        int[] due = {3, 1, 2, 1, 5, 1, 4, 6, 4};
        for (int what = 0; what < 9; what++) {
            Due.is("count(" + what + ")", s.count(what), due[what]);
        }
    }

    private static void told() {
        ClickStreet s = new ClickStreet();
        Due.is("k 0", s.told(0), Due.BEYOND);
        Due.is("k 7, counted", s.told(7), Due.BEYOND);
        Due.is("k -1, counted", s.told(-1), Due.BEYOND);
        Due.is("BEYOND", s.told(1), 3);
        s.trace(0);
        s.restore();
        Due.is("NONE", s.told(2), 2);
        s.sheet(0, 8, -1);
        Due.is("STATE", s.told(3), 1);
        for (int i = 0; i < 4; i++) {
            s.walker(0, i, 0);
        }
        for (int i = 0; i < 25; i++) {
            s.tell(i);
        }
        Due.is("FULL", s.told(4), 1);
        s.click(0);
        s.as(0, 1);
        Due.is("KIND", s.told(5), 2);
        s.voice(3, 3, 1);
        Due.is("PARTED", s.told(6), 1);
        Due.text(s, 0, "+");
        Due.is("a FAULT is no ERROR", s.told(1), 3);
        Due.is("told(1) is none", s.told(1), 3);
    }
}
