/** Promises 18 to 24: echoes, clicks, heads, what can't be told apart, the least and the farthest. */
public final class EdgeSoundTest {
    private static final int MAX = Integer.MAX_VALUE;
    private static final int MIN = Integer.MIN_VALUE;
    /** Numbers that tell no click: PITCH below 1 or above 9, LOUDNESS 0, below 0. */
    private static final int[] NO_CLICKS = {0, 1, 60, 99, 100, 200, 500, 900, 1000, 1001, 1060, -1, -560, -99, MAX, MIN};

    public static void main(String[] args) {
        echo();
        echoRefused();
        echoNone();
        click();
        head();
        heads();
        headsOther();
        alike();
        alikeRefused();
        least();
        leastRefused();
        farthest();
        farthestRefused();
        Due.end("EdgeSoundTest");
    }

    private static void echo() {
        String echo = "Of the ECHO from a SIDE, if a WALKER clicked now with a PITCH and a LOUDNESS, told as 100 times the first"
            + " and the other one (nothing changes): 0 YARDS, 1 thousandths, 2 STRENGTH, 3 what the left, 4 the right ear gets,"
            + " 5 whether it is HEARD (1, 0).";
        int[] clicks = {101, 199, 501, 599, 901, 999};
        for (int click : clicks) {
            ClickStreet s = Edge.of("Promise 18", echo, "click " + click);
            s.walker(1, 80, 0);
            s.thing(0, 83);
            Due.text(s, 0, "l+p*100");
            int[] due = {3, 18, click, click / 2, click, 1};
            for (int what = 0; what < 6; what++) {
                Due.is("what " + what, s.echo(0, click, 2, what), due[what]);
            }
        }
        ClickStreet s = Edge.of("Promise 18", echo, "not HEARD: its STRENGTH all the same");
        s.walker(6, 80, 0);
        s.thing(0, 81);
        int[] due = {1, 6, 58, 29, 58, 0};
        for (int what = 0; what < 6; what++) {
            Due.is("what " + what, s.echo(0, 660, 2, what), due[what]);
        }
        s = Edge.of("Promise 18", echo, "nothing changes");
        s.walker(1, 80, 0);
        s.thing(0, 83);
        s.echo(0, 999, 2, 5);
        Due.is("CLICKS", s.walkerIs(0, 8), 0);
        Due.is("PITCH", s.walkerIs(0, 3), 5);
        Due.is("LOUDNESS", s.walkerIs(0, 4), 60);
        Due.is("UNKNOWN", s.heads(0, 0), 192);
        s = Edge.of("Promise 18", echo, "with that PITCH and LOUDNESS, not with its own");
        s.walker(1, 80, 0);
        s.thing(0, 83);
        s.habit(0, 9, 99, 0);
        Due.is("STRENGTH", s.echo(0, 420, 2, 2), 14);
        s = Edge.of("Promise 18", echo, "of one that is no CLICKING one, too");
        s.walker(3, 80, 0);
        s.thing(0, 83);
        Due.is("HEARD", s.echo(0, 560, 2, 5), 1);
    }

    private static void echoRefused() {
        String beyond = "BEYOND: WALKER, PITCH, LOUDNESS, SIDE, what.";
        for (int click : NO_CLICKS) {
            ClickStreet s = Edge.of("Promise 18", beyond, "click " + click);
            s.walker(1, 80, 0);
            s.thing(0, 83);
            Due.is("echo", s.echo(0, click, 2, 0), Due.BEYOND);
        }
        int[][] bad = {{-1, 2, 0}, {1, 2, 0}, {MAX, 2, 0}, {0, -1, 0}, {0, 8, 0}, {0, MIN, 0}, {0, 2, -1}, {0, 2, 6},
            {0, 2, MAX}};
        for (int[] a : bad) {
            ClickStreet s = Edge.of("Promise 18", beyond, "WALKER " + a[0] + ", SIDE " + a[1] + ", what " + a[2]);
            s.walker(1, 80, 0);
            s.thing(0, 83);
            Due.is("echo", s.echo(a[0], 560, a[1], a[2]), Due.BEYOND);
        }
    }

    private static void echoNone() {
        ClickStreet s = Edge.of("Promise 18", "NONE: there is no ECHO.", "an empty street");
        s.walker(1, 80, 0);
        for (int what = 0; what < 6; what++) {
            Due.is("what " + what, s.echo(0, 560, 2, what), Due.NONE);
        }
        s = Edge.of("Promise 18", "NONE: there is no ECHO.", "above REACH");
        s.walker(1, 80, 0);
        s.thing(0, 93);
        Due.is("13 YARDS", s.echo(0, 560, 2, 0), Due.NONE);
        s = Edge.of("Promise 18", "NONE: there is no ECHO.", "REACH 0");
        s.walker(4, 80, 0);
        s.thing(0, 81);
        Due.is("1 YARD", s.echo(0, 560, 2, 0), Due.NONE);
        s = Edge.of("Promise 18", "NONE: there is no ECHO.", "in another SIDE");
        s.walker(1, 80, 0);
        s.thing(0, 83 + 16);
        Due.is("between two SIDES", s.echo(0, 560, 2, 0), Due.NONE);
        Due.is("between two SIDES", s.echo(0, 560, 3, 0), Due.NONE);
        s = Edge.of("Promise 18", "NONE: there is no ECHO.", "not when it is too weak");
        s.walker(1, 80, 0);
        s.thing(0, 83);
        Due.is("STRENGTH 0", s.echo(0, 501, 2, 2), 0);
        Due.is("HEARD", s.echo(0, 501, 2, 5), 0);
    }

    private static void click() {
        String click = "A WALKER clicks, with its PITCH and LOUDNESS: how many ECHOES are HEARD.";
        ClickStreet s = Edge.of("Promise 19", click, "none");
        s.walker(1, 80, 0);
        Due.is("click", s.click(0), 0);
        Due.is("CLICKS", s.walkerIs(0, 8), 1);
        s = Edge.of("Promise 19", click, "8");
        s.walker(1, 85, 0);
        int[] round = {-16, -15, 1, 17, 16, 15, -1, -17};
        for (int side = 0; side < 8; side++) {
            s.thing(0, 85 + 2 * round[side]);
        }
        Due.is("click", s.click(0), 8);
        Due.is("HELD FULL", s.heads(0, 2), 8);
        Due.is("HELD FREE", s.heads(0, 1), 8);
        s = Edge.of("Promise 19", click, "with its own PITCH and LOUDNESS");
        s.walker(1, 80, 0);
        s.thing(0, 83);
        s.kind(0, 1, 6);
        Due.is("PITCH 5", s.click(0), 0);
        s.habit(0, 6, 60, 0);
        Due.is("PITCH 6", s.click(0), 1);
        s.habit(0, 6, 11, 0);
        Due.is("LOUDNESS 11", s.click(0), 0);
        s.habit(0, 6, 12, 0);
        Due.is("LOUDNESS 12", s.click(0), 1);
        s = Edge.of("Promise 19", click, "one who does not GO, too");
        s.walker(7, 80, 0);
        s.thing(0, 83);
        Due.is("click", s.click(0), 1);
        int[] bad = {-1, 1, 8, MAX, MIN};
        for (int walker : bad) {
            s = Edge.of("Promise 19", "BEYOND.", "WALKER " + walker);
            s.walker(1, 80, 0);
            Due.is("click", s.click(walker), Due.BEYOND);
        }
        String kind = "KIND: it is no CLICKING one, nor one under it.";
        int[] clicking = {0, 1, 0, 0, 0, 1, 0, 1};
        for (int k = 0; k < 8; k++) {
            s = Edge.of("Promise 19", kind, "KIND " + k);
            s.walker(k, 80, 0);
            Due.is("click", s.click(0), clicking[k] == 1 ? 0 : Due.KIND);
        }
    }

    private static void head() {
        String head = "Of a CELL in a HEAD: 0 YES, 1 NO, 2 0 UNKNOWN, 1 HELD FREE, 2 HELD FULL.";
        ClickStreet s = Edge.of("Promise 20", head, "CELLS 0 and 191 at first");
        s.walker(0, 80, 0);
        for (int what = 0; what < 3; what++) {
            Due.is("0", s.head(0, 0, what), 0);
            Due.is("191", s.head(0, 191, what), 0);
        }
        s = Edge.of("Promise 20", head, "FULL, FREE, UNKNOWN");
        s.walker(1, 3, 0);
        s.thing(0, 0);
        s.click(0);
        s.click(0);
        int[][] due = {{2, 0, 2}, {0, 2, 1}, {0, 2, 1}, {0, 0, 0}};
        for (int cell = 0; cell < 4; cell++) {
            for (int what = 0; what < 3; what++) {
                Due.is("CELL " + cell + ", what " + what, s.head(0, cell, what), due[cell][what]);
            }
        }
        int[][] bad = {{-1, 0, 0}, {1, 0, 0}, {0, -1, 0}, {0, 192, 0}, {0, 0, -1}, {0, 0, 3}, {0, MAX, 0}, {0, 0, MIN}};
        for (int[] a : bad) {
            s = Edge.of("Promise 20", "BEYOND.", a[0] + ", " + a[1] + ", " + a[2]);
            s.walker(0, 80, 0);
            Due.is("head", s.head(a[0], a[1], a[2]), Due.BEYOND);
        }
    }

    private static void heads() {
        String heads = "How many CELLS a HEAD holds so: 0 UNKNOWN, 1 HELD FREE, 2 HELD FULL, 3 HELD FREE or FULL other than they"
            + " are now (what isn't FREE is FULL; its own is FREE).";
        ClickStreet s = Edge.of("Promise 21", heads, "all UNKNOWN");
        s.walker(1, 3, 0);
        s.thing(0, 0);
        int[] first = {192, 0, 0, 0};
        for (int what = 0; what < 4; what++) {
            Due.is("what " + what, s.heads(0, what), first[what]);
        }
        s = Edge.of("Promise 21", heads, "CELLS 0 and 191 count");
        s.walker(1, 3, 0);
        s.walker(1, 188, 0);
        s.thing(0, 0);
        s.thing(0, 191);
        s.click(0);
        s.click(1);
        for (int walker = 0; walker < 2; walker++) {
            int[] due = {189, 2, 1, 0};
            for (int what = 0; what < 4; what++) {
                Due.is("WALKER " + walker + ", what " + what, s.heads(walker, what), due[what]);
            }
        }
        int[][] bad = {{-1, 0}, {1, 0}, {0, -1}, {0, 4}, {MAX, 0}, {0, MIN}};
        for (int[] a : bad) {
            s = Edge.of("Promise 21", "BEYOND.", "WALKER " + a[0] + ", what " + a[1]);
            s.walker(0, 80, 0);
            Due.is("heads", s.heads(a[0], a[1]), Due.BEYOND);
        }
    }

    private static void headsOther() {
        String other = "3 HELD FREE or FULL other than they are now (what isn't FREE is FULL; its own is FREE).";
        ClickStreet s = Edge.of("Promise 21", other, "FULL, but FREE now; CELLS 0 and 191");
        s.walker(1, 3, 0);
        s.thing(0, 0);
        s.click(0);
        s.away(0);
        Due.is("CELL 0", s.heads(0, 3), 1);
        s.walker(1, 188, 0);
        s.thing(0, 191);
        s.click(1);
        s.away(1);
        Due.is("CELL 191", s.heads(1, 3), 1);
        s = Edge.of("Promise 21", other, "FREE, but a THING is there now");
        s.walker(1, 3, 0);
        s.thing(0, 0);
        s.click(0);
        s.thing(2, 1);
        Due.is("heads", s.heads(0, 3), 1);
        s = Edge.of("Promise 21", other, "FREE, but another WALKER is there now");
        s.walker(1, 3, 0);
        s.thing(0, 0);
        s.click(0);
        s.walker(0, 1, 0);
        Due.is("heads", s.heads(0, 3), 1);
        s = Edge.of("Promise 21", other, "HELD FREE, its own now");
        s.walker(1, 3, 6);
        s.thing(0, 0);
        s.click(0);
        s.goes(0, true);
        s.tenths(1);
        Due.is("heads", s.heads(0, 3), 0);
        s = Edge.of("Promise 21", other, "HELD FULL, its own now");
        s.walker(1, 3, 6);
        s.thing(0, 2);
        s.air(1, 0);
        s.click(0);
        s.away(0);
        Due.text(s, 2, "0");
        s.goes(0, true);
        s.tenths(1);
        Due.is("it is there", s.walkerIs(0, 1), 2);
        Due.is("heads", s.heads(0, 3), 1);
        s = Edge.of("Promise 21", other, "UNKNOWN is neither");
        s.walker(1, 3, 6);
        s.thing(0, 15);
        Due.is("heads", s.heads(0, 3), 0);
    }

    private static void alike() {
        String alike = "KINDS (as bits) that would be HEARD from so many YARDS (1 .. REACH) in a SIDE by a CLICK (as of echo())"
            + " with just that STRENGTH.";
        ClickStreet s = Edge.of("Promise 22", alike, "all, none");
        s.walker(1, 80, 0);
        Due.is("54", s.alike(0, 560, 3, 2, 54), 31);
        Due.is("53", s.alike(0, 560, 3, 2, 53), 0);
        Due.is("55", s.alike(0, 560, 3, 2, 55), 0);
        for (int kind = 0; kind < 5; kind++) {
            s = Edge.of("Promise 22", alike, "KIND " + kind + " alone");
            s.walker(1, 80, 0);
            s.kind(kind, 0, 75);
            Due.is("84", s.alike(0, 560, 3, 2, 84), 1 << kind);
            Due.is("the others", s.alike(0, 560, 3, 2, 54), 31 - (1 << kind));
        }
        s = Edge.of("Promise 22", alike, "with just that STRENGTH, but not HEARD");
        s.walker(6, 80, 0);
        Due.is("as NOISE", s.alike(0, 511, 3, 2, 5), 0);
        Due.is("above NOISE", s.alike(0, 512, 3, 2, 6), 31);
        Due.is("PITCH above EARS", s.alike(0, 660, 3, 2, 54), 0);
        Due.is("masked", s.alike(0, 560, 1, 2, 58), 0);
        Due.is("masked aslant", s.alike(0, 560, 1, 3, 58), 0);
        s.air(1, 7);
        Due.is("6 by 7", s.alike(0, 560, 1, 2, 58), 0);
        Due.is("8 by 7", s.alike(0, 560, 1, 3, 58), 31);
        s = Edge.of("Promise 22", alike, "STRENGTHS 0 and 999");
        s.walker(1, 80, 0);
        Due.text(s, 1, "1");
        Due.is("0 is never HEARD", s.alike(0, 501, 3, 2, 0), 0);
        Due.text(s, 0, "999*l");
        Due.is("999", s.alike(0, 560, 3, 2, 999), 31);
        Due.is("998", s.alike(0, 560, 3, 2, 998), 0);
        int[] reach = {3, 12, 1, 6, 0, 6, 5, 10};
        for (int kind = 0; kind < 8; kind++) {
            s = Edge.of("Promise 22", alike, "YARDS 1 .. REACH of KIND " + kind);
            s.walker(kind, 80, 0);
            s.air(1, 0);
            Due.is("0", s.alike(0, 560, 0, 2, 60), Due.BEYOND);
            Due.is("1", s.alike(0, 560, 1, 2, 58), reach[kind] > 0 ? 31 : Due.BEYOND);
            Due.is("above REACH", s.alike(0, 560, reach[kind] + 1, 2, 1), Due.BEYOND);
            if (reach[kind] > 0) {
                Due.is("REACH", s.alike(0, 560, reach[kind], 2, 60 - 2 * reach[kind]), 31);
            }
        }
    }

    private static void alikeRefused() {
        for (int click : NO_CLICKS) {
            ClickStreet s = Edge.of("Promise 22", "BEYOND.", "click " + click);
            s.walker(1, 80, 0);
            Due.is("alike", s.alike(0, click, 3, 2, 54), Due.BEYOND);
        }
        int[][] bad = {{-1, 3, 2, 54}, {1, 3, 2, 54}, {0, 0, 2, 54}, {0, 13, 2, 54}, {0, 3, -1, 54}, {0, 3, 8, 54},
            {0, 3, 2, -1}, {0, 3, 2, 1000}, {MAX, 3, 2, 54}, {0, MIN, 2, 54}, {0, 3, MAX, 54}, {0, 3, 2, MIN}};
        for (int[] a : bad) {
            ClickStreet s = Edge.of("Promise 22", "BEYOND.", a[0] + ", " + a[1] + ", " + a[2] + ", " + a[3]);
            s.walker(1, 80, 0);
            Due.is("alike", s.alike(a[0], 560, a[1], a[2], a[3]), Due.BEYOND);
        }
    }

    private static void least() {
        String least = "For a KIND at so many YARDS (1 .. 15) in SIDE 0: 0 the least PITCH by which it is HEARD with LOUDNESS 99,"
            + " 1 the least LOUDNESS with PITCH 9 (or EARS, if that is less).";
        for (int pitch = 1; pitch <= 9; pitch++) {
            ClickStreet s = Edge.of("Promise 23", least, "SHARP " + pitch);
            s.walker(1, 80, 0);
            s.kind(2, 1, pitch);
            Due.is("PITCH", s.least(0, 2, 3, 0), pitch);
            Due.is("LOUDNESS", s.least(0, 2, 3, 1), 12);
        }
        ClickStreet s = Edge.of("Promise 23", least, "PITCH 1, LOUDNESS 1");
        s.walker(1, 80, 0);
        Due.text(s, 0, "l*100");
        Due.is("PITCH", s.least(0, 2, 3, 0), 1);
        Due.is("LOUDNESS", s.least(0, 2, 3, 1), 1);
        s = Edge.of("Promise 23", least, "LOUDNESS 99 just does it");
        s.walker(1, 80, 0);
        Due.text(s, 1, "s>92");
        Due.is("LOUDNESS", s.least(0, 2, 3, 1), 99);
        Due.is("PITCH", s.least(0, 2, 3, 0), 1);
        s = Edge.of("Promise 23", least, "PITCH 9 just does it");
        s.walker(1, 80, 0);
        Due.text(s, 0, "p");
        Due.text(s, 1, "s>8");
        Due.is("PITCH", s.least(0, 2, 3, 0), 9);
        Due.is("LOUDNESS", s.least(0, 2, 3, 1), 1);
        s = Edge.of("Promise 23", least, "EARS 5");
        s.walker(6, 80, 0);
        Due.text(s, 0, "p*10+l");
        s.air(0, 99);
        Due.is("10 p + 99 > 99", s.least(0, 2, 3, 0), 1);
        Due.is("50 + l > 99", s.least(0, 2, 3, 1), 50);
        Due.text(s, 0, "p");
        s.air(0, 4);
        Due.is("PITCH as EARS", s.least(0, 2, 3, 0), 5);
        s = Edge.of("Promise 23", least, "it need not be so for all above");
        s.walker(1, 80, 0);
        Due.text(s, 0, "[p=4?9:0]+[l=44?9:0]");
        Due.is("PITCH 4 alone", s.least(0, 2, 3, 0), 4);
        Due.is("LOUDNESS 44 alone", s.least(0, 2, 3, 1), 44);
        s = Edge.of("Promise 23", least, "in SIDE 0: 6 thousandths for a YARD");
        s.walker(1, 80, 1);
        s.air(1, 12);
        Due.is("12 by 12", s.least(0, 2, 2, 0), Due.NONE);
        Due.is("18 by 12", s.least(0, 2, 3, 0), 1);
        s = Edge.of("Promise 23", least, "in SIDE 0: 6 thousandths for a YARD, by LOUDNESS");
        s.walker(1, 80, 1);
        s.air(1, 12);
        Due.is("12 by 12", s.least(0, 2, 2, 1), Due.NONE);
        Due.is("18 by 12", s.least(0, 2, 3, 1), 12);
        s = Edge.of("Promise 23", least, "what is in the street does not matter");
        s.walker(1, 16, 0);
        s.thing(0, 17);
        Due.is("LOUDNESS", s.least(0, 2, 12, 1), 30);
    }

    private static void leastRefused() {
        int[][] bad = {{-1, 0, 3, 0}, {1, 0, 3, 0}, {0, -1, 3, 0}, {0, 5, 3, 0}, {0, 0, 0, 0}, {0, 0, 16, 0},
            {0, 0, -1, 0}, {0, 0, 3, -1}, {0, 0, 3, 2}, {0, 0, MAX, 0}, {0, 0, MIN, 0}, {0, MAX, 3, 0}, {0, 0, 3, MIN}};
        for (int[] a : bad) {
            ClickStreet s = Edge.of("Promise 23", "BEYOND.", a[0] + ", " + a[1] + ", " + a[2] + ", " + a[3]);
            s.walker(1, 80, 0);
            Due.is("least", s.least(a[0], a[1], a[2], a[3]), Due.BEYOND);
        }
        String none = "NONE: by none; or YARDS are above REACH.";
        ClickStreet s = Edge.of("Promise 23", none, "by none");
        s.walker(1, 80, 0);
        s.kind(0, 0, 0);
        Due.is("PITCH", s.least(0, 0, 3, 0), Due.NONE);
        Due.is("LOUDNESS", s.least(0, 0, 3, 1), Due.NONE);
        s = Edge.of("Promise 23", none, "SHARP above EARS");
        s.walker(6, 80, 0);
        s.kind(0, 1, 6);
        Due.is("PITCH", s.least(0, 0, 3, 0), Due.NONE);
        Due.is("LOUDNESS", s.least(0, 0, 3, 1), Due.NONE);
        int[] reach = {3, 12, 1, 6, 0, 6, 5, 10};
        for (int kind = 0; kind < 8; kind++) {
            s = Edge.of("Promise 23", none, "REACH of KIND " + kind + ", and above");
            s.walker(kind, 80, 0);
            s.air(1, 0);
            Due.is("above", s.least(0, 0, reach[kind] + 1, 0), Due.NONE);
            Due.is("15", s.least(0, 0, 15, 1), Due.NONE);
            if (reach[kind] > 0) {
                Due.is("REACH", s.least(0, 0, reach[kind], 0), 1);
            }
        }
    }

    private static void farthest() {
        String farthest = "The greatest YARDS (1 .. REACH) at which a KIND is HEARD in SIDE 0 by a CLICK.";
        int[] reach = {3, 12, 1, 6, 0, 6, 5, 10};
        for (int kind = 0; kind < 8; kind++) {
            ClickStreet s = Edge.of("Promise 24", farthest, "REACH of KIND " + kind);
            s.walker(kind, 80, 0);
            s.air(1, 0);
            Due.is("farthest", s.farthest(0, 0, 560), reach[kind] > 0 ? reach[kind] : Due.NONE);
        }
        ClickStreet s = Edge.of("Promise 24", farthest, "1 alone");
        s.walker(1, 80, 0);
        s.air(1, 0);
        Due.is("8 - 2 y > 5", s.farthest(0, 0, 508), 1);
        s = Edge.of("Promise 24", farthest, "as NOISE it is not HEARD");
        s.walker(1, 80, 0);
        Due.is("15 - 2 y > 5", s.farthest(0, 0, 515), 4);
        Due.is("16 - 2 y > 5", s.farthest(0, 0, 516), 5);
        s = Edge.of("Promise 24", farthest, "the greatest, though not HEARD nearer");
        s.walker(1, 80, 0);
        Due.text(s, 0, "[y=7?9:0]");
        Due.is("7 alone", s.farthest(0, 0, 560), 7);
        s = Edge.of("Promise 24", farthest, "in SIDE 0: 6 thousandths for a YARD");
        s.walker(1, 80, 1);
        s.air(1, 71);
        Due.is("72 by 71", s.farthest(0, 0, 560), 12);
        s.air(1, 72);
        Due.is("72 by 72", s.farthest(0, 0, 560), Due.NONE);
        s = Edge.of("Promise 24", farthest, "of that KIND");
        s.walker(1, 80, 0);
        s.kind(1, 0, 10);
        Due.is("POLE: 12 - 2 y > 5", s.farthest(0, 1, 560), 3);
        Due.is("WALL", s.farthest(0, 0, 560), 12);
    }

    private static void farthestRefused() {
        for (int click : NO_CLICKS) {
            ClickStreet s = Edge.of("Promise 24", "BEYOND.", "click " + click);
            s.walker(1, 80, 0);
            Due.is("farthest", s.farthest(0, 0, click), Due.BEYOND);
        }
        int[][] bad = {{-1, 0}, {1, 0}, {0, -1}, {0, 5}, {MAX, 0}, {0, MIN}};
        for (int[] a : bad) {
            ClickStreet s = Edge.of("Promise 24", "BEYOND.", "WALKER " + a[0] + ", KIND " + a[1]);
            s.walker(1, 80, 0);
            Due.is("farthest", s.farthest(a[0], a[1], 560), Due.BEYOND);
        }
        ClickStreet s = Edge.of("Promise 24", "NONE: at none.", "masked where it is loud");
        s.walker(1, 80, 0);
        Due.is("8 - 2 y > 5", s.farthest(0, 0, 508), Due.NONE);
        s = Edge.of("Promise 24", "NONE: at none.", "PITCH above EARS");
        s.walker(6, 80, 0);
        Due.is("6", s.farthest(0, 0, 660), Due.NONE);
        Due.is("5", s.farthest(0, 0, 560), 5);
        s = Edge.of("Promise 24", "NONE: at none.", "PITCH below SHARP");
        s.walker(1, 80, 0);
        s.kind(0, 1, 6);
        Due.is("5", s.farthest(0, 0, 560), Due.NONE);
        Due.is("6", s.farthest(0, 0, 660), 12);
        s = Edge.of("Promise 24", "NONE: at none.", "REACH 0");
        s.walker(4, 80, 0);
        Due.is("LED", s.farthest(0, 0, 560), Due.NONE);
    }
}
