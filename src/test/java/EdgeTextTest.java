/** What Term 4 of the document says of texts, and promises 16 and 17. */
public final class EdgeTextTest {
    private static final String GRAMMAR_ONE = "ONE: a NUMBER of 1 to 3 digits, a NAME, - ONE, ( TEXT ), [ TEXT ? TEXT :"
        + " TEXT ] (the second if the first isn't 0, else the third; all are worked out).";

    public static void main(String[] args) {
        tape();
        comparisons();
        sumsAndTerms();
        ones();
        choices();
        open();
        blanks();
        wraps();
        faults();
        names();
        strengthWithout();
        heardWithout();
        habitWithout();
        habitNames();
        feed();
        text();
        Due.end("EdgeTextTest");
    }

    /** A WALKER who gets an ECHO from the east at 3 YARDS. */
    private static ClickStreet echoing(String sentence, String what) {
        ClickStreet s = Edge.of("Term 4", sentence, what);
        s.walker(1, 80, 0);
        s.thing(0, 83);
        return s;
    }

    private static void is(String sentence, String text, int due) {
        ClickStreet s = echoing(sentence, text);
        Due.is("it is read", Due.text(s, 0, text) > 0 ? 1 : 0, 1);
        Due.is("it is worked out", s.echo(0, 678, 2, 2), due);
    }

    private static void fault(String sentence, String text, int place) {
        ClickStreet s = Edge.of("Term 4", sentence, "'" + text + "'");
        Due.is("FAULT", Due.text(s, 0, text), -10 - place);
    }

    private static void tape() {
        String most = "TEXTS are read from THE TAPE (bytes, at most 48):";
        ClickStreet s = Edge.of("Term 4", most, "48, and one more");
        for (int i = 1; i <= 6; i++) {
            Due.is("eight", s.feed(0x2B312B312B312B31L, 8), 8 * i);
        }
        Due.is("one more", s.feed('1', 1), Due.FULL);
        Due.is("+ at the end", s.text(0), -10 - 48);
        s = Edge.of("Term 4", most, "47, and one more");
        for (int i = 0; i < 5; i++) {
            s.feed(0x2B312B312B312B31L, 8);
        }
        s.feed(0x2B312B312B312B31L, 7);
        Due.is("two more", s.feed(0x2B2B, 2), Due.FULL);
        Due.is("one more", s.feed('7', 1), 48);
        Due.is("1+1+..+17", s.text(0), 24);
        s = Edge.of("Term 4", most, "bytes of 128 and above");
        s.feed(0xC3, 1);
        Due.is("195", s.text(0), -10);
        s.feed(0xB1, 1);
        Due.is("177, 128 above 1", s.text(0), -10);
        s.feed(0xFF31, 2);
        Due.is("255 behind 1", s.text(0), -11);
        s.feed(0xA031, 2);
        Due.is("160 is no blank", s.text(0), -11);
    }

    private static void comparisons() {
        String left = "SUM { one of < = > SUM }, from the left.";
        is(left, "2<3", 1);
        is(left, "3<3", 0);
        is(left, "4<3", 0);
        is(left, "3>2", 1);
        is(left, "3>3", 0);
        is(left, "2>3", 0);
        is(left, "3=3", 1);
        is(left, "3=2", 0);
        is(left, "0-1<0", 1);
        is(left, "3>2>1", 0);
        is(left, "3>2=1", 1);
        is(left, "1=3>2", 0);
        is(left, "0<1<2<3", 1);
        is(left, "2<1<1", 1);
        is(left, "1<2+9", 1);
        is(left, "1+1=2", 1);
        is(left, "2=1+1", 1);
        is(left, "5=5*9", 0);
    }

    private static void sumsAndTerms() {
        String sum = "SUM: TERM { + TERM, - TERM }.";
        is(sum, "9-3-2", 4);
        is(sum, "9-3+2", 8);
        is(sum, "9+3-2", 10);
        is(sum, "9-2*3", 3);
        is(sum, "2*3-1", 5);
        String term = "TERM: ONE { * ONE, / ONE, % ONE }.";
        is(term, "100/10/5", 2);
        is(term, "100/10*5", 50);
        is(term, "100*10/7", 142);
        is(term, "17%10%4", 3);
        is(term, "17%10*4", 28);
        is(term, "4*17%10", 8);
        is(term, "6/4", 1);
    }

    private static void ones() {
        is(GRAMMAR_ONE, "0", 0);
        is(GRAMMAR_ONE, "7", 7);
        is(GRAMMAR_ONE, "42", 42);
        is(GRAMMAR_ONE, "998", 998);
        is(GRAMMAR_ONE, "000", 0);
        is(GRAMMAR_ONE, "007", 7);
        fault(GRAMMAR_ONE, "1234", 3);
        fault(GRAMMAR_ONE, "0000", 3);
        is(GRAMMAR_ONE, "p", 6);
        fault(GRAMMAR_ONE, "pp", 1);
        fault(GRAMMAR_ONE, "p1", 1);
        fault(GRAMMAR_ONE, "1p", 1);
        is(GRAMMAR_ONE, "9+-2", 7);
        is(GRAMMAR_ONE, "9--2", 11);
        is(GRAMMAR_ONE, "9---2", 7);
        is(GRAMMAR_ONE, "-2*-4", 8);
        is(GRAMMAR_ONE, "-2+9", 7);
        is(GRAMMAR_ONE, "-7/2+9", 6);
        is(GRAMMAR_ONE, "-(2<3)+9", 8);
        is(GRAMMAR_ONE, "(2<3)*7", 7);
        fault(GRAMMAR_ONE, "()", 1);
        fault(GRAMMAR_ONE, "(1", 2);
        fault(GRAMMAR_ONE, "(1]", 2);
        fault(GRAMMAR_ONE, "1)", 1);
        fault(GRAMMAR_ONE, "(1)(2)", 3);
        fault(GRAMMAR_ONE, "2(1)", 1);
    }

    private static void choices() {
        is(GRAMMAR_ONE, "[0?8:9]", 9);
        is(GRAMMAR_ONE, "[1?8:9]", 8);
        is(GRAMMAR_ONE, "[2?8:9]", 8);
        is(GRAMMAR_ONE, "[-1?8:9]", 8);
        is(GRAMMAR_ONE, "[2<1?8:9]", 9);
        is(GRAMMAR_ONE, "[1?2<3:9]", 1);
        is(GRAMMAR_ONE, "[0?9:2<3]", 1);
        is(GRAMMAR_ONE, "[1?[0?1:2]:3]", 2);
        is(GRAMMAR_ONE, "[1?7:1/0]", 7);
        is(GRAMMAR_ONE, "[0?1%0:7]", 7);
        is(GRAMMAR_ONE, "[1?7:9]*[0?7:9]", 63);
        fault(GRAMMAR_ONE, "[1]", 2);
        fault(GRAMMAR_ONE, "[1?2]", 4);
        fault(GRAMMAR_ONE, "[1:2]", 2);
        fault(GRAMMAR_ONE, "[1?2?3]", 4);
        fault(GRAMMAR_ONE, "[1?2:3)", 6);
        fault(GRAMMAR_ONE, "[1?2:3:4]", 6);
        fault(GRAMMAR_ONE, "1?2:3", 1);
        fault(GRAMMAR_ONE, "(1?2:3)", 2);
    }

    private static void open() {
        String open = "At most 5 of -, ( and [ are open at once.";
        is(open, "(((((7)))))", 7);
        fault(open, "((((((7))))))", 5);
        is(open, "9+-----7", 2);
        fault(open, "9+------7", 7);
        is(open, "[[[[[1?1:1]?1:1]?1:1]?1:1]?7:1]", 7);
        fault(open, "[[[[[[1?1:1]", 5);
        is(open, "(-(-[1?7:0]))", 7);
        fault(open, "(-(-([1?7:0])))", 5);
        fault(open, "[1?(-(-(-7))):0]", 7);
        fault(open, "[1?0:(-(-(-7)))]", 9);
        is(open, "-1*-1*-1*-1*-1*-1*7", 7);
        is(open, "(1)*(1)*(1)*(1)*(1)*(1)*7", 7);
        is(open, "(((((9-1-1)))))", 7);
        is(open, "-(-(-1))-1-1-1+9", 5);
        is(open, "(((((1)))))*(((((7)))))", 7);
        is(open, "(((-(0-7))))", 7);
        fault(open, "(((((-7)))))", 5);
    }

    private static void blanks() {
        String blanks = "Blanks (32) may stand anywhere but within a NUMBER.";
        is(blanks, "  7", 7);
        is(blanks, "7  ", 7);
        is(blanks, " ( 1 + 2 ) * 3 ", 9);
        is(blanks, "[ 0 ? 1 : 7 ]", 7);
        is(blanks, "9 - - 2", 11);
        is(blanks, "l  -  8 * 9", 6);
        fault(blanks, "1 2", 2);
        fault(blanks, "12 3", 3);
        fault(blanks, "1  23", 3);
        ClickStreet s = Edge.of("Term 4", blanks, "no other byte is one");
        Due.is("tab", Due.text(s, 0, "1\t"), -11);
        Due.is("line end", Due.text(s, 0, "\n1"), -10);
        Due.is("0", Due.text(s, 0, "1\0"), -11);
        Due.is("31", Due.text(s, 0, "\u001f1"), -10);
    }

    private static void wraps() {
        String wrap = "Ints that wrap; / and % by 0 are 0.";
        // 999 * 999 * 999 is 997002999; 3 times that is above what an int holds
        is(wrap, "999*999*999*3<0", 1);
        is(wrap, "999*999*999*2>0", 1);
        is(wrap, "999*999*999*2+999*999*999<0", 1);
        is(wrap, "0-999*999*999*2-999*999*999>0", 1);
        // 64 * 32 * 1024 * 1024 is the least int
        is(wrap, "32*64*32*32*32*32<0", 1);
        is(wrap, "0-32*64*32*32*32*32=32*64*32*32*32*32", 1);
        is(wrap, "-(32*64*32*32*32*32)=32*64*32*32*32*32", 1);
        is(wrap, "32*64*32*32*32*32/-1=32*64*32*32*32*32", 1);
        is(wrap, "7+32*64*32*32*32*32%-1", 7);
        is(wrap, "64*64*32*32*32*32+7", 7);
        is(wrap, "7/0", 0);
        is(wrap, "7%0", 0);
        is(wrap, "7%0+7", 7);
        is(wrap, "7/0+7", 7);
        is(wrap, "0/0+7", 7);
        is(wrap, "9/(3-3)+7", 7);
        is(wrap, "[1/0?1:7]", 7);
    }

    private static void faults() {
        String fault = "FAULT: the place of the first byte, no blank, with which no TEXT goes on; how many bytes there are, if"
            + " it ends too early.";
        fault(fault, "", 0);
        fault(fault, " ", 1);
        fault(fault, "   ", 3);
        fault(fault, "1+", 2);
        fault(fault, "1+  ", 4);
        fault(fault, "(", 1);
        fault(fault, "-", 1);
        fault(fault, "[1?2:3", 6);
        fault(fault, "[1?2:3  ", 8);
        fault(fault, "1  +  )", 6);
        fault(fault, "  )", 2);
        fault(fault, "1  )", 3);
        fault(fault, "+1", 0);
        fault(fault, "*1", 0);
        fault(fault, "<1", 0);
        fault(fault, "1**2", 2);
        fault(fault, "1+*2", 2);
        fault(fault, "1<>2", 2);
        fault(fault, "1==2", 2);
        fault(fault, "1<=2", 2);
        fault(fault, "1!2", 1);
        fault(fault, "1+2)+(3", 3);
        fault(fault, "1;(2", 1);
        fault(fault, "((1)", 4);
        ClickStreet s = Edge.of("Term 4", fault, "at the 48th byte");
        Due.is("x", Due.text(s, 0, "1+1+1+1+1+1+1+1+1+1+1+1+1+1+1+1+1+1+1+1+1+1+123x"), -10 - 47);
        s = Edge.of("Term 4", fault, "behind the 48th byte");
        Due.is("+", Due.text(s, 0, "1+1+1+1+1+1+1+1+1+1+1+1+1+1+1+1+1+1+1+1+1+1+123+"), -10 - 48);
    }

    private static void names() {
        String others = "USES, with NAMES (others are the FAULT at themselves):";
        String[] names = {"loyp", "snt", "flrbt"};
        for (int use = 0; use < 3; use++) {
            for (char name = 33; name < 127; name++) {
                if (name >= '0' && name <= '9' || "-([".indexOf(name) >= 0) {
                    continue;
                }
                ClickStreet s = Edge.of("Term 4", others, "'" + name + "' of USE " + use);
                boolean is = names[use].indexOf(name) >= 0;
                Due.is("ahead", Due.text(s, use, name + "+1"), is ? 2 : -10);
                Due.is("behind", Due.text(s, use, "1+" + name), is ? 2 : -12);
            }
        }
    }

    private static void strengthWithout() {
        String l = "0 STRENGTH: l LOUDNESS, o LOUD of the KIND, y YARDS, p PITCH. Without: l * o / 50 - 2 * y.";
        ClickStreet s = echoing(l, "without: LOUDNESS 99, LOUD 99");
        s.kind(0, 0, 99);
        Due.is("9801 / 50 - 6", s.echo(0, 699, 2, 2), 196 - 6);
        s = echoing(l, "without: LOUD 0");
        s.kind(0, 0, 0);
        Due.is("0 - 6", s.echo(0, 699, 2, 2), 0);
        s = echoing(l, "without: first * then /");
        s.kind(0, 0, 49);
        Due.is("33 * 49 / 50 - 6", s.echo(0, 633, 2, 2), 32 - 6);
        s = echoing(l, "names");
        s.kind(0, 0, 47);
        s.kind(1, 0, 1);
        int[] due = {78, 47, 3, 6};
        for (int i = 0; i < 4; i++) {
            Due.text(s, 0, "loyp".substring(i, i + 1));
            Due.is("name " + i, s.echo(0, 678, 2, 2), due[i]);
        }
    }

    private static void heardWithout() {
        String h = "1 HEARD: s STRENGTH, n NOISE (0 .. 99; 5 at first), t thousandths. Without: s > n.";
        ClickStreet s = echoing(h, "without: STRENGTH as NOISE, and above");
        Due.is("5 by 5", s.echo(0, 611, 2, 5), 0);
        Due.is("6 by 5", s.echo(0, 612, 2, 5), 1);
        s = echoing(h, "NOISE 5 at first");
        Due.is("it was", s.air(0, 0), 5);
        s = echoing(h, "NOISE 0 and 99, and others");
        Due.is("-1", s.air(0, -1), Due.BEYOND);
        Due.is("100", s.air(0, 100), Due.BEYOND);
        Due.is("0", s.air(0, 0), 5);
        Due.is("1 by 0", s.echo(0, 607, 2, 5), 1);
        Due.is("99", s.air(0, 99), 0);
        s.kind(0, 0, 99);
        Due.is("99 by 99", s.echo(0, 653, 2, 2), 98);
        Due.is("98 by 99", s.echo(0, 653, 2, 5), 0);
        Due.text(s, 0, "99");
        Due.is("99 by 99", s.echo(0, 653, 2, 5), 0);
        Due.text(s, 0, "99+1");
        Due.is("100 by 99", s.echo(0, 653, 2, 5), 1);
        s = echoing(h, "names");
        s.air(0, 33);
        String[] texts = {"s=72", "n=33", "t=18"};
        for (String text : texts) {
            Due.text(s, 1, text);
            Due.is(text, s.echo(0, 678, 2, 5), 1);
        }
        s = echoing(h, "STRENGTH is that in SNOW");
        s.air(2, 1);
        Due.text(s, 1, "s=36");
        Due.is("half of 72", s.echo(0, 678, 2, 5), 1);
    }

    private static void habitWithout() {
        String h = "Without: 0 if f is 0 or above 1, else 1.";
        for (int yards = 0; yards <= 3; yards++) {
            ClickStreet s = Edge.of("Term 4", h, "f " + yards);
            s.walker(1, 80, 2);
            s.air(1, 0);
            if (yards > 0) {
                s.thing(0, 80 + yards);
                s.click(0);
            }
            s.goes(0, true);
            s.tenths(1);
            Due.is("CELL", s.walkerIs(0, 1), yards == 1 ? 80 : 81);
            Due.is("SIDE", s.walkerIs(0, 2), yards == 1 ? 3 : 2);
        }
    }

    private static void habitNames() {
        String h = "2 HABIT: f, l, r: YARDS to the nearest CELL that is HELD FULL in the SIDE that is FACED, two SIDES left of"
            + " it, two right of it (9 at most; 0: none), b BUMPS, t NOW.";
        int[] round = {-16, -15, 1, 17, 16, 15, -1, -17};
        for (int facing = 0; facing < 8; facing++) {
            ClickStreet s = Edge.of("Term 4", h, "FACING " + facing + ": f 1, l 2, r 3");
            s.walker(1, 85, facing);
            s.air(1, 0);
            s.thing(0, 85 + round[facing]);
            s.thing(0, 85 + 2 * round[(facing + 6) % 8]);
            s.thing(0, 85 + 3 * round[(facing + 2) % 8]);
            s.click(0);
            s.goes(0, true);
            Due.text(s, 2, "[(f=1)*(l=2)*(r=3)?2:3]");
            s.tenths(1);
            Due.is("SIDE", s.walkerIs(0, 2), (facing + 2) % 8);
        }
        for (int yards = 8; yards <= 11; yards++) {
            ClickStreet s = Edge.of("Term 4", h, "HELD FULL at " + yards);
            s.walker(1, 80, 2);
            s.thing(0, 80 + yards);
            s.click(0);
            s.goes(0, true);
            Due.text(s, 2, yards > 9 ? "f=0" : "f=" + yards);
            s.tenths(1);
            Due.is("SIDE", s.walkerIs(0, 2), 3);
        }
        ClickStreet s = Edge.of("Term 4", h, "none: nothing known");
        s.walker(1, 80, 2);
        s.thing(0, 83);
        s.goes(0, true);
        Due.text(s, 2, "(f=0)*(l=0)*(r=0)");
        s.tenths(1);
        Due.is("SIDE", s.walkerIs(0, 2), 3);
        s = Edge.of("Term 4", h, "none: HELD FREE alone");
        s.walker(1, 80, 2);
        s.thing(0, 92);
        s.click(0);
        s.goes(0, true);
        Due.text(s, 2, "f=0");
        s.tenths(1);
        Due.is("SIDE", s.walkerIs(0, 2), 3);
        s = Edge.of("Term 4", h, "the nearest of two");
        s.walker(1, 80, 2);
        s.thing(0, 85);
        s.click(0);
        s.thing(0, 83);
        s.click(0);
        s.click(0);
        s.goes(0, true);
        Due.is("83", s.head(0, 83, 2), 2);
        Due.is("85", s.head(0, 85, 2), 2);
        Due.text(s, 2, "f=3");
        s.tenths(1);
        Due.is("SIDE", s.walkerIs(0, 2), 3);
        s = Edge.of("Term 4", h, "its own CELL does not count");
        s.walker(1, 80, 2);
        s.air(1, 0);
        s.thing(0, 81);
        s.click(0);
        s.away(0);
        s.thing(0, 84);
        Due.text(s, 2, "0");
        s.goes(0, true);
        s.tenths(1);
        s.click(0);
        Due.is("its own is HELD FULL", s.head(0, 81, 2), 2);
        Due.text(s, 2, "[f=3?1:2]");
        s.tenths(1);
        Due.is("SIDE", s.walkerIs(0, 2), 3);
        s = Edge.of("Term 4", h, "BUMPS 0, 1, 2");
        s.walker(0, 15, 2);
        s.goes(0, true);
        Due.text(s, 2, "[b=2?1:0]");
        s.tenths(2);
        Due.is("SIDE at 2", s.walkerIs(0, 2), 2);
        s.tenths(1);
        Due.is("SIDE behind 2", s.walkerIs(0, 2), 3);
        s = Edge.of("Term 4", h, "NOW is 1 in the first TENTH");
        s.walker(0, 85, 2);
        s.goes(0, true);
        Due.text(s, 2, "[t=1?1:2]");
        s.tenths(1);
        Due.is("SIDE", s.walkerIs(0, 2), 3);
        s.tenths(1);
        Due.is("SIDE at 2", s.walkerIs(0, 2), 5);
    }

    private static void feed() {
        String feed = "The n lowest bytes (1 .. 8) of a word, the lowest first, come to THE TAPE: how many there are.";
        for (int n = 1; n <= 8; n++) {
            ClickStreet s = Edge.of("Promise 16", feed, n + " bytes");
            // 1 + 1 + 1 + 1 +, the lowest byte is the first
            Due.is("how many", s.feed(0x2B312B312B312B31L, n), n);
            Due.is("text", s.text(0), n % 2 == 1 ? (n + 1) / 2 : -10 - n);
        }
        ClickStreet s = Edge.of("Promise 16", feed, "the lowest first");
        s.feed(0x2B31, 2);
        s.feed(0x31, 1);
        Due.is("1+1", s.text(0), 2);
        s.feed(0x312B, 2);
        Due.is("+1", s.text(0), -10);
        s = Edge.of("Promise 16", feed, "a word below 0");
        s.feed(0xFF31, 1);
        Due.is("the lowest of -207", s.feed(-207, 1), 2);
        Due.is("11", s.text(0), 1);
        s.feed(Long.MIN_VALUE | 0x31, 7);
        Due.is("7 of 8 bytes: 0 behind the first", s.text(0), -11);
        s = Edge.of("Promise 16", "BEYOND.", "n 0, 9, below 0");
        Due.is("0", s.feed(0x31, 0), Due.BEYOND);
        Due.is("9", s.feed(0x31, 9), Due.BEYOND);
        Due.is("-1", s.feed(0x31, -1), Due.BEYOND);
        Due.is("the least", s.feed(0x31, Integer.MIN_VALUE), Due.BEYOND);
        Due.is("the greatest", s.feed(0x31, Integer.MAX_VALUE), Due.BEYOND);
        for (int n = 1; n <= 8; n++) {
            s = Edge.of("Promise 16", "FULL.", n + " bytes more than there is room for");
            for (int i = 0; i < 49 - n; i++) {
                s.feed(0x31, 1);
            }
            Due.is("one too many", s.feed(0, n), Due.FULL);
            Due.is("none came", s.count(4), 49 - n);
            Due.is("one less", n == 1 ? 48 : s.feed(0, n - 1), 48);
        }
    }

    private static void text() {
        String how = "THE TAPE, which is empty then, is the TEXT of a USE (in place of one ahead): how many NUMBERS and NAMES;";
        ClickStreet s = Edge.of("Promise 17", how, "one, and many");
        Due.is("1", Due.text(s, 0, "1"), 1);
        Due.is("empty", s.count(4), 0);
        Due.is("l", Due.text(s, 0, "l"), 1);
        Due.is("-(12+[l?0:l])", Due.text(s, 0, "-(12+[l?0:l])"), 4);
        Due.is("24", Due.text(s, 0, "1+1+1+1+1+1+1+1+1+1+1+1+1+1+1+1+1+1+1+1+1+1+1+1"), 24);
        s = Edge.of("Promise 17", how, "in place of one ahead");
        s.walker(1, 80, 0);
        s.thing(0, 83);
        Due.text(s, 0, "7");
        Due.text(s, 0, "8");
        Due.is("STRENGTH", s.echo(0, 560, 2, 2), 8);
        String fault = "-10 less its FAULT (the one ahead stays; THE TAPE is empty, too).";
        s = Edge.of("Promise 17", fault, "FAULT 0 of an empty TAPE");
        Due.is("text", s.text(0), -10);
        s = Edge.of("Promise 17", fault, "the one ahead stays");
        s.walker(1, 80, 0);
        s.thing(0, 83);
        Due.text(s, 0, "7");
        Due.is("FAULT 1", Due.text(s, 0, "8)"), -11);
        Due.is("STRENGTH", s.echo(0, 560, 2, 2), 7);
        s = Edge.of("Promise 17", fault, "none ahead stays none");
        s.walker(1, 80, 0);
        s.thing(0, 83);
        Due.text(s, 0, "8)");
        Due.is("STRENGTH", s.echo(0, 560, 2, 2), 54);
        s = Edge.of("Promise 17", fault, "THE TAPE is empty, too");
        Due.text(s, 0, "8)");
        Due.is("bytes", s.count(4), 0);
        s = Edge.of("Promise 17", fault, "it is no ERROR");
        Due.text(s, 0, "8)");
        for (int k = 1; k <= 6; k++) {
            Due.is("told " + k, s.told(k), 0);
        }
        s = Edge.of("Promise 17", "BEYOND (THE TAPE stays).", "USES -1 and 3");
        s.feed(0x31, 1);
        Due.is("-1", s.text(-1), Due.BEYOND);
        Due.is("3", s.text(3), Due.BEYOND);
        Due.is("bytes", s.count(4), 1);
        Due.is("text", s.text(2), 1);
    }
}
