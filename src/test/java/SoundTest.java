import java.util.Random;

/** Promises 18 to 24: echoes, clicks, heads, kinds that can't be told apart, the least and the farthest. */
public final class SoundTest {
    public static void main(String[] args) {
        echoes();
        earsMasksAndNoise();
        textsOfUses();
        ears();
        clicks();
        heads();
        mostKept();
        alike();
        least();
        farthest();
        echoesAgreeWithEachOther();
        Due.end("SoundTest");
    }

    /** Walker 0, CLICKING, at (5, 5), with things around it. */
    private static ClickStreet around() {
        ClickStreet s = new ClickStreet();
        s.walker(1, Due.cell(5, 5), 0);
        s.thing(0, Due.cell(5, 2));
        s.thing(1, Due.cell(8, 2));
        s.thing(2, Due.cell(7, 5));
        s.thing(0, Due.cell(9, 5));
        s.walker(0, Due.cell(5, 8), 0);
        s.thing(4, Due.cell(4, 6));
        return s;
    }

    private static void echoIs(ClickStreet s, int click, int side, int... due) {
        for (int what = 0; what < due.length; what++) {
            Due.is("echo(0, " + click + ", " + side + ", " + what + ")", s.echo(0, click, side, what), due[what]);
        }
    }

    private static void echoes() {
        ClickStreet s = around();
        echoIs(s, 560, 0, 3, 18, 54, 54, 54, 1);
        echoIs(s, 555, 1, 3, 24, 49, 24, 49, 1);
        echoIs(s, 560, 2, 2, 12, 56, 28, 56, 1);
        echoIs(s, 560, 4, 3, 18, 54, 54, 54, 1);
        echoIs(s, 560, 5, 1, 8, 58, 58, 29, 0);
        for (int side : new int[] {3, 6, 7}) {
            Due.is("no echo", s.echo(0, 560, side, 0), Due.NONE);
        }
        s.face(0, 3);
        echoIs(s, 560, 0, 3, 18, 54, 54, 27, 1);
        echoIs(s, 560, 4, 3, 18, 54, 27, 54, 1);
        s.face(0, 4);
        echoIs(s, 560, 0, 3, 18, 54, 54, 54, 1);
        s.kind(3, 0, 99);
        echoIs(s, 560, 4, 3, 18, 112);
        s.kind(3, 1, 6);
        echoIs(s, 560, 4, 3, 18, 0, 0, 0, 0);
        echoIs(s, 660, 4, 3, 18, 112, 112, 112, 1);
        s.air(2, 1);
        echoIs(s, 655, 1, 3, 24, 24, 24, 12, 1);
        s.away(2);
        echoIs(s, 560, 2, 4, 24);
        Due.is("of another, that does not click", s.echo(1, 101, 0, 0), 3);
        Due.is("too weak", s.echo(1, 101, 0, 2), 0);
        Due.is("PITCH 0", s.echo(0, 60, 0, 0), Due.BEYOND);
        Due.is("PITCH 10", s.echo(0, 1001, 0, 0), Due.BEYOND);
        Due.is("LOUDNESS 0", s.echo(0, 500, 0, 0), Due.BEYOND);
        Due.is("below 0", s.echo(0, -560, 0, 0), Due.BEYOND);
        Due.is("far below 0", s.echo(0, Integer.MIN_VALUE, 0, 0), Due.BEYOND);
        Due.is("SIDE 8", s.echo(0, 560, 8, 0), Due.BEYOND);
        Due.is("SIDE -1", s.echo(0, 560, -1, 0), Due.BEYOND);
        Due.is("what 6, ahead of NONE", s.echo(0, 560, 6, 6), Due.BEYOND);
        Due.is("what -1", s.echo(0, 560, 0, -1), Due.BEYOND);
        Due.is("WALKER 2", s.echo(2, 560, 0, 0), Due.BEYOND);
        Due.is("WALKER -1", s.echo(-1, 560, 0, 0), Due.BEYOND);
        Due.is("nothing was clicked", s.count(8), 0);
    }

    private static void earsMasksAndNoise() {
        int[] reach = {3, 12, 1, 6, 0, 6, 5, 10};
        for (int kind = 0; kind < 8; kind++) {
            ClickStreet s = new ClickStreet();
            s.walker(kind, 16 * 4, 2);
            for (int x = 1; x < 16; x++) {
                s.thing(0, 16 * 4 + x);
                Due.is("REACH of " + kind, s.echo(0, 999, 2, 0), x <= reach[kind] ? x : Due.NONE);
                s.away(x - 1);
            }
        }
        ClickStreet s = new ClickStreet();
        s.walker(6, 80, 0);
        s.thing(0, 83);
        Due.is("PITCH 5 for OLD EARS", s.echo(0, 560, 2, 5), 1);
        Due.is("PITCH 6 for OLD EARS", s.echo(0, 660, 2, 5), 0);
        Due.is("its STRENGTH all the same", s.echo(0, 660, 2, 2), 54);
        s.air(1, 17);
        Due.is("MASK 17, LATE 18", s.echo(0, 560, 2, 5), 1);
        s.air(1, 18);
        Due.is("MASK 18, LATE 18", s.echo(0, 560, 2, 5), 0);
        s.air(1, 9);
        s.air(0, 53);
        Due.is("NOISE 53, STRENGTH 54", s.echo(0, 560, 2, 5), 1);
        s.air(0, 54);
        Due.is("NOISE 54, STRENGTH 54", s.echo(0, 560, 2, 5), 0);
        s.air(0, 0);
        s.kind(0, 1, 5);
        Due.is("SHARP 5, PITCH 5", s.echo(0, 560, 2, 2), 54);
        Due.is("SHARP 5, PITCH 4", s.echo(0, 460, 2, 2), 0);
        Due.text(s, 1, "1");
        Due.is("STRENGTH 0 is not HEARD by any text", s.echo(0, 460, 2, 5), 0);
        s.air(1, 18);
        Due.is("what is masked is not HEARD by any text", s.echo(0, 560, 2, 5), 0);
        s.air(1, 0);
        Due.is("HEARD by a text", s.echo(0, 560, 2, 5), 1);
        Due.is("EARS by a text", s.echo(0, 660, 2, 5), 0);
    }

    private static void textsOfUses() {
        ClickStreet s = around();
        s.kind(2, 0, 7);
        Due.text(s, 0, "l*100+o*10+y");
        echoIs(s, 106, 2, 2, 12, 672);
        Due.text(s, 0, "l+p*100");
        echoIs(s, 299, 2, 2, 12, 299);
        Due.text(s, 0, "0-l");
        echoIs(s, 560, 2, 2, 12, 0, 0, 0, 0);
        Due.text(s, 0, "999*l");
        echoIs(s, 560, 2, 2, 12, 999, 499, 999, 1);
        s.air(2, 1);
        echoIs(s, 560, 2, 2, 12, 499, 249, 499, 1);
        s.air(0, 37);
        Due.text(s, 1, "(s=499)*(n=37)*(t=12)");
        echoIs(s, 560, 2, 2, 12, 499, 249, 499, 1);
        echoIs(s, 560, 0, 3, 18, 499, 499, 499, 0);
        Due.text(s, 1, "0-1");
        Due.is("below 0 is HEARD", s.echo(0, 560, 2, 5), 1);

        // a LOUDNESS of 1 does not touch the PITCH
        s = new ClickStreet();
        s.walker(6, 80, 0);
        s.thing(0, 83);
        s.kind(0, 1, 5);
        Due.text(s, 0, "9");
        Due.is("PITCH 5, SHARP 5, LOUDNESS 1", s.echo(0, 501, 2, 5), 1);
        Due.is("PITCH 6, EARS 5, LOUDNESS 1", s.echo(0, 601, 2, 5), 0);
        Due.is("PITCH 4, LOUDNESS 99", s.echo(0, 499, 2, 2), 0);
    }

    /** What each ear gets of an ECHO from each SIDE, for each that is FACED. */
    private static void ears() {
        ClickStreet s = new ClickStreet();
        s.walker(1, Due.cell(5, 5), 0);
        int[] cells = {
            Due.cell(5, 3), Due.cell(7, 3), Due.cell(7, 5), Due.cell(7, 7),
            Due.cell(5, 7), Due.cell(3, 7), Due.cell(3, 5), Due.cell(3, 3)
        };
        for (int cell : cells) {
            s.thing(0, cell);
        }
        Due.text(s, 0, "41");
        for (int facing = 0; facing < 8; facing++) {
            s.face(0, facing);
            for (int round = 0; round < 8; round++) {
                int side = (facing + round) % 8;
                boolean isRight = round == 1 || round == 2 || round == 3;
                boolean isLeft = round == 5 || round == 6 || round == 7;
                echoIs(s, 560, side, 2, side % 2 == 1 ? 16 : 12, 41, isRight ? 20 : 41, isLeft ? 20 : 41, 1);
            }
        }
    }

    private static void clicks() {
        ClickStreet s = around();
        Due.is("walker 2", s.click(2), Due.BEYOND);
        Due.is("walker -1", s.click(-1), Due.BEYOND);
        Due.is("no CLICKING one", s.click(1), Due.KIND);
        int[] clicking = {0, 1, 0, 0, 0, 1, 0, 1};
        for (int kind = 0; kind < 6; kind++) {
            int number = s.walker(kind + 2, 180 + kind, 0);
            Due.is("kind " + (kind + 2) + " clicks", s.click(number) >= 0 ? 1 : 0, clicking[kind + 2]);
            Due.is("clicks", s.walkerIs(number, 8), clicking[kind + 2]);
        }
        Due.is("HEARD", s.click(0), 4);
        Due.is("again", s.click(0), 4);
        Due.is("made", s.walkerIs(0, 8), 2);
        Due.is("of all", s.count(8), 4);
        Due.is("where it stands", s.head(0, Due.cell(5, 5), 0), 0);
        Due.is("the CELL", s.head(0, Due.cell(5, 2), 0), 2);
        Due.is("the CELL, NO", s.head(0, Due.cell(5, 2), 1), 0);
        Due.is("nearer", s.head(0, Due.cell(5, 3), 1), 2);
        Due.is("nearest", s.head(0, Due.cell(5, 4), 1), 2);
        Due.is("nearest, YES", s.head(0, Due.cell(5, 4), 0), 0);
        Due.is("in a side aslant", s.head(0, Due.cell(7, 3), 1), 2);
        Due.is("farther", s.head(0, Due.cell(5, 1), 1), 0);
        Due.is("masked", s.head(0, Due.cell(4, 6), 0), 0);
        s.habit(0, 1, 6, 0);
        Due.is("what is too weak", s.click(0), 0);
        Due.is("made all the same", s.walkerIs(0, 8), 3);
    }

    private static void heads() {
        ClickStreet s = around();
        Due.is("UNKNOWN at first", s.heads(0, 0), 192);
        s.click(0);
        Due.is("UNKNOWN", s.heads(0, 0), 181);
        Due.is("HELD FREE", s.heads(0, 1), 7);
        Due.is("HELD FULL", s.heads(0, 2), 4);
        Due.is("none other", s.heads(0, 3), 0);
        Due.is("held full", s.head(0, Due.cell(5, 2), 2), 2);
        Due.is("held free", s.head(0, Due.cell(5, 3), 2), 1);
        Due.is("unknown", s.head(0, 0, 2), 0);
        Due.is("another's head", s.heads(1, 0), 192);
        s.away(0);
        Due.is("FULL, but is FREE", s.heads(0, 3), 1);
        s.thing(0, Due.cell(5, 3));
        Due.is("FREE, but is FULL", s.heads(0, 3), 2);
        s.click(0);
        Due.is("YES as NO is UNKNOWN", s.head(0, Due.cell(5, 3), 2), 0);
        Due.is("one other", s.heads(0, 3), 1);
        s.face(0, 2);
        s.goes(0, true);
        s.tenths(1);
        Due.is("its own is FREE", s.walkerIs(0, 1), Due.cell(6, 5));
        Due.is("held free", s.head(0, Due.cell(6, 5), 2), 1);
        Due.is("still one other", s.heads(0, 3), 1);
        s.walker(0, Due.cell(5, 7), 0);
        Due.is("another walker is FULL", s.heads(0, 3), 2);
        s.thing(0, 0);
        s.face(0, 7);
        s.tenths(1);
        s.walker(1, Due.cell(3, 3), 7);
        s.air(1, 0);
        s.click(3);
        Due.is("CELL 0 is FULL", s.head(3, 0, 2), 2);
        int others = s.heads(3, 3);
        s.away(s.at(0));
        Due.is("CELL 0 is other", s.heads(3, 3), others + 1);
        s.air(1, 9);
        Due.is("what 4", s.heads(0, 4), Due.BEYOND);
        Due.is("what -1", s.heads(0, -1), Due.BEYOND);
        Due.is("walker 4", s.heads(4, 0), Due.BEYOND);
        Due.is("walker -1", s.heads(-1, 0), Due.BEYOND);
        Due.is("head what 3", s.head(0, 0, 3), Due.BEYOND);
        Due.is("head what -1", s.head(0, 0, -1), Due.BEYOND);
        Due.is("head CELL 192", s.head(0, 192, 0), Due.BEYOND);
        Due.is("head CELL -1", s.head(0, -1, 0), Due.BEYOND);
        Due.is("head walker 4", s.head(4, 0, 0), Due.BEYOND);
    }

    private static void mostKept() {
        ClickStreet s = new ClickStreet();
        s.walker(1, 85, 0);
        s.thing(0, 82);
        Due.text(s, 2, "1");
        s.habit(0, 5, 60, 1);
        s.goes(0, true);
        s.tenths(99);
        Due.is("YES 99", s.head(0, 82, 0), 99);
        Due.is("NO 99", s.head(0, 83, 1), 99);
        s.tenths(6);
        Due.is("YES, at most", s.head(0, 82, 0), 99);
        Due.is("NO, at most", s.head(0, 83, 1), 99);
        Due.is("clicks", s.walkerIs(0, 8), 105);
        s.away(0);
        s.thing(0, 81);
        s.tenths(98);
        Due.is("NO 98", s.head(0, 82, 1), 98);
        Due.is("still FULL", s.head(0, 82, 2), 2);
        s.tenths(5);
        Due.is("as much", s.head(0, 82, 2), 0);
        Due.is("as a spot", s.sheet(0, 16, 1), 1);
        s.put(0, 0, 86);
        // the walker's own cell would be told, 82 would stay at 99 of each
        Due.is("what is kept to the most is never known", s.spots(0, 0, 1, 0), 1);
    }

    private static void alike() {
        ClickStreet s = new ClickStreet();
        s.walker(1, 0, 0);
        s.walker(4, 100, 0);
        Due.is("all kinds", s.alike(0, 560, 3, 0, 54), 31);
        s.kind(1, 0, 51);
        Due.is("without the second", s.alike(0, 560, 3, 0, 54), 29);
        Due.is("the second", s.alike(0, 560, 3, 0, 55), 2);
        s.kind(4, 1, 6);
        Due.is("too sharp", s.alike(0, 560, 3, 0, 54), 13);
        Due.is("0 is not HEARD", s.alike(0, 560, 3, 0, 0), 0);
        Due.is("the farthest", s.alike(0, 560, 12, 0, 36), 13);
        s.air(1, 20);
        Due.is("18 is masked", s.alike(0, 560, 3, 0, 54), 0);
        Due.is("24 is not", s.alike(0, 560, 3, 1, 54), 13);
        s.air(2, 1);
        Due.is("in SNOW", s.alike(0, 560, 3, 7, 27), 15);
        Due.text(s, 1, "s<20");
        Due.is("by a text", s.alike(0, 560, 3, 7, 27), 0);
        Due.is("YARDS 0", s.alike(0, 560, 0, 0, 1), Due.BEYOND);
        Due.is("YARDS 13", s.alike(0, 560, 13, 0, 1), Due.BEYOND);
        Due.is("SIDE 8", s.alike(0, 560, 1, 8, 1), Due.BEYOND);
        Due.is("SIDE -1", s.alike(0, 560, 1, -1, 1), Due.BEYOND);
        Due.is("click 500", s.alike(0, 500, 1, 0, 1), Due.BEYOND);
        Due.is("click 60", s.alike(0, 60, 1, 0, 1), Due.BEYOND);
        Due.is("STRENGTH -1", s.alike(0, 560, 1, 0, -1), Due.BEYOND);
        Due.is("STRENGTH 1000", s.alike(0, 560, 1, 0, 1000), Due.BEYOND);
        Due.is("STRENGTH 999", s.alike(0, 560, 1, 0, 999), 0);
        Due.is("no REACH", s.alike(1, 560, 1, 0, 1), Due.BEYOND);
        Due.is("walker 2", s.alike(2, 560, 1, 0, 1), Due.BEYOND);
    }

    private static void least() {
        ClickStreet s = new ClickStreet();
        s.walker(1, 0, 0);
        s.walker(6, 100, 0);
        s.walker(4, 120, 0);
        Due.is("least PITCH", s.least(0, 0, 3, 0), 1);
        s.kind(0, 1, 6);
        Due.is("least PITCH of a sharp one", s.least(0, 0, 3, 0), 6);
        Due.is("for OLD EARS", s.least(1, 0, 3, 0), Due.NONE);
        Due.is("LOUDNESS for OLD EARS", s.least(1, 0, 3, 1), Due.NONE);
        s.kind(0, 1, 5);
        Due.is("for OLD EARS", s.least(1, 0, 3, 0), 5);
        Due.is("LOUDNESS: l - 6 > 5", s.least(1, 0, 3, 1), 12);
        Due.is("LOUDNESS: l - 24 > 5", s.least(0, 3, 12, 1), 30);
        Due.text(s, 0, "p*10+l");
        s.air(0, 99);
        Due.is("by PITCH with LOUDNESS 99", s.least(0, 0, 3, 0), 5);
        Due.is("by LOUDNESS with PITCH 9", s.least(0, 0, 3, 1), 10);
        Due.is("by LOUDNESS with PITCH 5", s.least(1, 0, 3, 1), 50);
        Due.text(s, 1, "0");
        Due.is("by none", s.least(0, 0, 3, 0), Due.NONE);
        Due.is("by none", s.least(0, 0, 3, 1), Due.NONE);
        Due.text(s, 1, "1");
        Due.is("masked", s.least(0, 0, 1, 0), Due.NONE);
        Due.is("YARDS 12", s.least(0, 0, 12, 1), 1);
        s.air(1, 7);
        Due.is("6 is masked by 7", s.least(0, 0, 1, 0), Due.NONE);
        Due.is("6 is masked by 7", s.least(0, 0, 1, 1), Due.NONE);
        Due.is("12 is not", s.least(0, 0, 2, 0), 5);
        s.kind(2, 1, 9);
        Due.is("PITCH 9", s.least(0, 2, 2, 0), 9);
        Due.text(s, 1, "s>188");
        Due.is("LOUDNESS 99 with PITCH 9", s.least(0, 2, 2, 1), 99);
        Due.is("PITCH 9 with LOUDNESS 99", s.least(0, 2, 2, 0), 9);
        Due.text(s, 1, "s>189");
        Due.is("none with PITCH 9", s.least(0, 2, 2, 1), Due.NONE);
        Due.is("none with LOUDNESS 99", s.least(0, 2, 2, 0), Due.NONE);
        Due.is("YARDS 13", s.least(0, 0, 13, 1), Due.NONE);
        Due.is("YARDS 15", s.least(0, 0, 15, 1), Due.NONE);
        Due.is("YARDS 16", s.least(0, 0, 16, 1), Due.BEYOND);
        Due.is("YARDS 0", s.least(0, 0, 0, 1), Due.BEYOND);
        Due.is("no REACH", s.least(2, 0, 1, 1), Due.NONE);
        Due.is("KIND 5", s.least(0, 5, 1, 1), Due.BEYOND);
        Due.is("KIND -1", s.least(0, -1, 1, 1), Due.BEYOND);
        Due.is("what 2", s.least(0, 0, 1, 2), Due.BEYOND);
        Due.is("what -1", s.least(0, 0, 1, -1), Due.BEYOND);
        Due.is("BEYOND ahead of NONE", s.least(0, 0, 13, 2), Due.BEYOND);
        Due.is("walker 3", s.least(3, 0, 1, 1), Due.BEYOND);
    }

    private static void farthest() {
        ClickStreet s = new ClickStreet();
        s.walker(7, 0, 0);
        s.walker(4, 100, 0);
        Due.is("REACH", s.farthest(0, 0, 560), 10);
        Due.is("20 - 2 y > 5", s.farthest(0, 0, 520), 7);
        Due.is("12 - 2 y > 5, masked at 1", s.farthest(0, 0, 512), 3);
        Due.is("8 - 2 y > 5: at 1 alone, which is masked", s.farthest(0, 0, 508), Due.NONE);
        s.air(1, 5);
        Due.is("not masked", s.farthest(0, 0, 508), 1);
        s.air(1, 7);
        Due.is("6 is masked by 7", s.farthest(0, 0, 508), Due.NONE);
        Due.text(s, 0, "[y=4?99:[y=9?3:9]]");
        Due.text(s, 1, "s>10");
        Due.is("4 alone", s.farthest(0, 0, 560), 4);
        Due.text(s, 1, "s<5");
        Due.is("9 alone", s.farthest(0, 0, 560), 9);
        s.kind(2, 1, 6);
        Due.is("sharp", s.farthest(0, 2, 560), Due.NONE);
        Due.is("sharp, PITCH 6", s.farthest(0, 2, 660), 9);
        Due.is("no REACH", s.farthest(1, 0, 560), Due.NONE);
        Due.is("KIND 5", s.farthest(0, 5, 560), Due.BEYOND);
        Due.is("KIND -1", s.farthest(0, -1, 560), Due.BEYOND);
        Due.is("click 1000", s.farthest(0, 0, 1000), Due.BEYOND);
        Due.is("click 99", s.farthest(0, 0, 99), Due.BEYOND);
        Due.is("walker 2", s.farthest(2, 0, 560), Due.BEYOND);
    }

    /** What click() keeps is what echo() tells. */
    private static void echoesAgreeWithEachOther() {
        Random random = new Random(3);
        for (int i = 0; i < 300; i++) {
            ClickStreet s = new ClickStreet();
            int pitch = 1 + random.nextInt(9);
            int loudness = 1 + random.nextInt(99);
            s.walker(new int[] {1, 5, 7}[random.nextInt(3)], random.nextInt(192), random.nextInt(8));
            s.habit(0, pitch, loudness, 0);
            for (int n = random.nextInt(40); n > 0; n--) {
                s.thing(random.nextInt(5), random.nextInt(192));
            }
            for (int kind = 0; kind < 5; kind++) {
                s.kind(kind, 0, random.nextInt(100));
                s.kind(kind, 1, random.nextInt(10));
            }
            s.air(2, random.nextInt(2));
            int from = s.walkerIs(0, 1);
            int heard = 0;
            int[] yes = new int[192];
            int[] no = new int[192];
            for (int side = 0; side < 8; side++) {
                if (s.echo(0, 100 * pitch + loudness, side, 5) != 1) {
                    continue;
                }
                heard++;
                int x = from % 16;
                int y = from / 16;
                int yards = s.echo(0, 100 * pitch + loudness, side, 0);
                for (int k = 1; k <= yards; k++) {
                    x += side == 0 || side == 4 ? 0 : side < 4 ? 1 : -1;
                    y += side == 2 || side == 6 ? 0 : side > 2 && side < 6 ? 1 : -1;
                    Due.is("FREE ahead of an echo", s.at(16 * y + x) == -1 ? 1 : 0, k < yards ? 1 : 0);
                    if (k < yards) {
                        no[16 * y + x]++;
                    } else {
                        yes[16 * y + x]++;
                    }
                }
            }
            Due.is("HEARD", s.click(0), heard);
            for (int cell = 0; cell < 192; cell++) {
                Due.is("YES", s.head(0, cell, 0), yes[cell]);
                Due.is("NO", s.head(0, cell, 1), no[cell]);
            }
        }
    }
}
