import java.util.Random;

/** Promises 16 and 17: the tape, and texts as they are read and worked out. */
public final class TextTest {
    private static final String[] NAMES = {"loyp", "snt", "flrbt"};

    public static void main(String[] args) {
        tape();
        readTexts();
        faults();
        open();
        uses();
        worked();
        replaced();
        wornByRandomTexts();
        faultsByAnotherReader();
        Due.end("TextTest");
    }

    private static void tape() {
        ClickStreet s = new ClickStreet();
        Due.is("n 0", s.feed(1, 0), Due.BEYOND);
        Due.is("n 9", s.feed(1, 9), Due.BEYOND);
        Due.is("n -1", s.feed(1, -1), Due.BEYOND);
        Due.is("nothing came", s.count(4), 0);
        Due.is("two", s.feed(0x7A00312B31L, 2), 2);
        Due.is("one", s.feed('1', 1), 3);
        Due.is("bytes", s.count(4), 3);
        // 1, +, 1: the lowest byte first
        Due.is("three parts of a text", s.text(0), 2);
        Due.is("empty", s.count(4), 0);
        for (int i = 1; i <= 6; i++) {
            Due.is("eight", s.feed(-1, 8), 8 * i);
        }
        Due.is("the 49th", s.feed(1, 1), Due.FULL);
        Due.is("BEYOND ahead of FULL", s.feed(1, 9), Due.BEYOND);
        Due.is("48", s.count(4), 48);
        Due.is("bytes of 255", s.text(0), -10);
        Due.feed(s, "1234567");
        for (int i = 0; i < 5; i++) {
            s.feed(' ', 8);
        }
        Due.is("47, 2 more", s.feed(0, 2), Due.FULL);
        Due.is("47", s.count(4), 47);
        Due.is("47, 1 more", s.feed(0, 1), 48);
        Due.is("use 3", s.text(3), Due.BEYOND);
        Due.is("use -1", s.text(-1), Due.BEYOND);
        Due.is("the tape stays", s.count(4), 48);
        Due.is("the highest byte of a word", s.text(2), -13);
        s.feed('1' | (long) '+' << 56, 8);
        Due.is("a byte of 0 is no blank", s.text(0), -11);
    }

    private static void readTexts() {
        ClickStreet s = new ClickStreet();
        Due.is("one number", Due.text(s, 0, "7"), 1);
        Due.is("three digits", Due.text(s, 0, "007"), 1);
        Due.is("names", Due.text(s, 0, "l+o-y*p"), 4);
        Due.is("names of 1", Due.text(s, 1, "s<n=t"), 3);
        Due.is("names of 2", Due.text(s, 2, "f%l/r>b+t"), 5);
        Due.is("blanks", Due.text(s, 0, "  -  ( l  ? 1".replace('?', '+') + " )  "), 2);
        Due.is("choices", Due.text(s, 0, "[ l < 3 ? 1 : [ 0 ? p : 2 ] ]"), 6);
        Due.is("48 bytes", Due.text(s, 0, "1+1+1+1+1+1+1+1+1+1+1+1+1+1+1+1+1+1+1+1+1+1+1+10"), 24);
    }

    private static void faults() {
        ClickStreet s = new ClickStreet();
        String[] texts = {
            "", " ", "   ", "1+", "1 + ", "+", "1 2", "12 3", "1234", "l o", "lo", "l1", "1l", "L", "s",
            "(1", "(1))", "1)", ")", "()", "[1", "[1?", "[1?2", "[1?2:", "[1?2:3", "[1:2", "[1?2?3", "[]",
            "(1]", "[1?2:3)", "1<", "1<<2", "1=>2", "1 < = 2", "*1", "1**2", "1*-", "-", "--", "1-", "?", "1?2:3",
            "(1?2:3)", "[1?2:3]4", "[1?2:3] (", "1.5", "a", "1+%", "  x", "1  )", "\u00e91", "1\t"
        };
        int[] faults = {
            0, 1, 3, 2, 4, 0, 2, 3, 3, 2, 1, 1, 1, 0, 0,
            2, 3, 1, 0, 1, 2, 3, 4, 5, 6, 2, 4, 1,
            2, 6, 2, 2, 2, 4, 0, 2, 3, 1, 2, 2, 0, 1,
            2, 7, 8, 1, 0, 2, 2, 3, 0, 1
        };
        for (int i = 0; i < texts.length; i++) {
            Due.is("'" + texts[i] + "'", Due.text(s, 0, texts[i]), -10 - faults[i]);
            Due.is("the tape is empty", s.count(4), 0);
        }
        Due.is("no act told an ERROR", s.told(1), 0);
    }

    private static void open() {
        ClickStreet s = new ClickStreet();
        Due.is("5 (", Due.text(s, 0, "(((((1)))))"), 1);
        Due.is("6 (", Due.text(s, 0, "((((((1))))))"), -15);
        Due.is("5 -", Due.text(s, 0, "-----1"), 1);
        Due.is("6 -", Due.text(s, 0, "------1"), -15);
        Due.is("5 [", Due.text(s, 0, "[[[[[1?1:1]?1:1]?1:1]?1:1]?1:1]"), 11);
        Due.is("6 [", Due.text(s, 0, "[[[[[[1?1:1]"), -15);
        Due.is("6 in the last part", Due.text(s, 0, "[1?2:-(-(-3))]"), -10 - 9);
        Due.is("5 in the last part", Due.text(s, 0, "[1?2:-(-(3))]"), 3);
        Due.is("- is closed behind its ONE", Due.text(s, 0, "-1*-1*-1*-1*-1*-1*-1"), 7);
        Due.is("( is closed", Due.text(s, 0, "(1)(2"), -13);
        Due.is("( is closed", Due.text(s, 0, "(1)+(2)+(3)+(4)+(5)+(6)"), 6);
        Due.is("- between is not open", Due.text(s, 0, "(((((1-1-1-1-1-1-1)))))"), 7);
        Due.is("- within (", Due.text(s, 0, "(((((-1)))))"), -15);
        Due.is("- ( [ mixed", Due.text(s, 0, "-([-(1?"), -10 - 6);
        Due.is("- ( [ mixed, the sixth", Due.text(s, 0, "-([-(["), -15);
    }

    private static void uses() {
        String all = "loypsntflrbt";
        for (int use = 0; use < 3; use++) {
            ClickStreet s = new ClickStreet();
            for (int i = 0; i < all.length(); i++) {
                String name = all.substring(i, i + 1);
                boolean is = NAMES[use].indexOf(name.charAt(0)) >= 0;
                Due.is("name " + name + " of use " + use, Due.text(s, use, "1+" + name), is ? 2 : -12);
            }
        }
    }

    /** A street in which side 2 gives an echo of LOUD 50 at 3 yards. */
    private static ClickStreet echoing() {
        ClickStreet s = new ClickStreet();
        s.walker(1, 80, 0);
        s.thing(0, 83);
        return s;
    }

    private static void is(ClickStreet s, String text, int want) {
        Due.text(s, 0, text);
        Due.is("'" + text + "'", s.echo(0, 678, 2, 2), want);
    }

    private static void worked() {
        ClickStreet s = echoing();
        is(s, "7", 7);
        is(s, "l", 78);
        is(s, "o", 50);
        is(s, "y", 3);
        is(s, "p", 6);
        is(s, "1+2*3", 7);
        is(s, "(1+2)*3", 9);
        is(s, "9-3-2", 4);
        is(s, "99/2/7", 7);
        is(s, "99%50%30", 19);
        is(s, "7*9/2", 31);
        is(s, "7/2*9", 27);
        is(s, "-7+9", 2);
        is(s, "0-7/2+9", 6);
        is(s, "(0-7)/2+9", 6);
        is(s, "9+(0-7)%4", 6);
        is(s, "9--2", 11);
        is(s, "--2", 2);
        is(s, "3<4", 1);
        is(s, "4<3", 0);
        is(s, "4>3", 1);
        is(s, "4=4", 1);
        is(s, "4=3", 0);
        is(s, "3<2<1", 1);
        is(s, "5>4>3", 0);
        is(s, "3=3=3", 0);
        is(s, "1+2<2+2", 1);
        is(s, "[3?8:9]", 8);
        is(s, "[0?8:9]", 9);
        is(s, "[-1?8:9]", 8);
        is(s, "[1<2?8:9]", 8);
        is(s, "[1?[0?1:2]:3]+1", 3);
        is(s, "5/0+4", 4);
        is(s, "5%0+4", 4);
        is(s, "[1?6:5/0]", 6);
        is(s, "999+1", 999);
        is(s, "0-1", 0);
        is(s, "999*999*999*999<0", 1);
        is(s, "999*999*999*3", 0);
        is(s, "(999*999*999*3=0-1303963301)", 999 * 999 * 999 * 3 == -1303963301 ? 1 : 0);
        s.air(2, 1);
        is(s, "7", 3);
        is(s, "999*2", 499);
        is(s, "0-1", 0);
    }

    private static void replaced() {
        ClickStreet s = echoing();
        Due.is("without", s.echo(0, 678, 2, 2), 78 - 6);
        Due.text(s, 0, "y+l+");
        Due.is("a fault keeps the one ahead: none", s.echo(0, 678, 2, 2), 72);
        Due.text(s, 0, "y+l");
        Due.is("a text", s.echo(0, 678, 2, 2), 81);
        Due.text(s, 0, "1+");
        Due.is("a fault keeps the one ahead", s.echo(0, 678, 2, 2), 81);
        Due.text(s, 1, "0");
        Due.is("another use", s.echo(0, 678, 2, 2), 81);
        Due.is("not heard", s.echo(0, 678, 2, 5), 0);
        Due.text(s, 0, "5");
        Due.is("another text", s.echo(0, 678, 2, 2), 5);
    }

    // ---- texts made at random, worked out as they are made

    private static final class Made {
        final String text;
        final int value;
        final int parts;

        Made(String text, int value, int parts) {
            this.text = text;
            this.value = value;
            this.parts = parts;
        }
    }

    private static Made join(Made a, String sign, int value, Made b) {
        return new Made(a.text + sign + b.text, value, a.parts + b.parts);
    }

    private static Made makeOne(Random random, int deep) {
        int pick = random.nextInt(deep > 0 ? 7 : 3);
        if (pick < 2) {
            int number = random.nextInt(random.nextBoolean() ? 10 : 1000);
            return new Made("" + number, number, 1);
        }
        if (pick == 2) {
            int name = random.nextInt(4);
            return new Made("loyp".substring(name, name + 1), new int[] {78, 50, 3, 6}[name], 1);
        }
        if (pick == 3) {
            Made one = makeOne(random, deep - 1);
            return new Made("-" + one.text, -one.value, one.parts);
        }
        if (pick < 6) {
            Made inner = makeText(random, deep - 1);
            return new Made("(" + inner.text + ")", inner.value, inner.parts);
        }
        Made a = makeText(random, deep - 1);
        Made b = makeText(random, deep - 1);
        Made c = makeText(random, deep - 1);
        return new Made("[" + a.text + "?" + b.text + ":" + c.text + "]", a.value != 0 ? b.value : c.value,
            a.parts + b.parts + c.parts);
    }

    private static Made makeTerm(Random random, int deep) {
        Made made = makeOne(random, deep);
        while (random.nextInt(3) == 0) {
            Made one = makeOne(random, deep);
            int sign = random.nextInt(3);
            int a = made.value;
            int b = one.value;
            int value = sign == 0 ? a * b : b == 0 ? 0 : sign == 1 ? a / b : a % b;
            made = join(made, new String[] {"*", "/", "%"}[sign], value, one);
        }
        return made;
    }

    private static Made makeSum(Random random, int deep) {
        Made made = makeTerm(random, deep);
        while (random.nextInt(3) == 0) {
            Made term = makeTerm(random, deep);
            boolean isPlus = random.nextBoolean();
            made = join(made, isPlus ? " +" : "-", isPlus ? made.value + term.value : made.value - term.value, term);
        }
        return made;
    }

    private static Made makeText(Random random, int deep) {
        Made made = makeSum(random, deep);
        while (random.nextInt(6) == 0) {
            Made sum = makeSum(random, deep);
            int sign = random.nextInt(3);
            int a = made.value;
            int b = sum.value;
            boolean is = sign == 0 ? a < b : sign == 1 ? a == b : a > b;
            made = join(made, new String[] {"<", "= ", ">"}[sign], is ? 1 : 0, sum);
        }
        return made;
    }

    private static void wornByRandomTexts() {
        Random random = new Random(7);
        ClickStreet s = echoing();
        int tried = 0;
        for (int i = 0; i < 40000 && tried < 12000; i++) {
            Made made = makeText(random, random.nextInt(6));
            if (made.text.length() > 48) {
                continue;
            }
            tried++;
            Due.is("parts of '" + made.text + "'", Due.text(s, 0, made.text), made.parts);
            Due.is("'" + made.text + "'", s.echo(0, 678, 2, 2), Math.max(0, Math.min(999, made.value)));
        }
        Due.is("texts tried", tried > 5000 ? 1 : 0, 1);
    }

    // ---- faults found by a list of what is open instead of by going down

    private static int faultOf(String text, int use) {
        String open = "";
        boolean wantsOne = true;
        int digits = 0;
        for (int i = 0; i < text.length(); i++) {
            char c = text.charAt(i);
            if (c == ' ') {
                digits = 0;
                continue;
            }
            boolean isDigit = c >= '0' && c <= '9';
            if (isDigit && digits > 0 && digits < 3) {
                digits++;
                continue;
            }
            digits = 0;
            if (wantsOne) {
                if (isDigit || NAMES[use].indexOf(c) >= 0) {
                    digits = isDigit ? 1 : 0;
                    wantsOne = false;
                    open = withoutMinus(open);
                } else if ("-([".indexOf(c) >= 0 && open.length() < 5) {
                    open += c;
                } else {
                    return i;
                }
            } else if ("+-*/%<=>".indexOf(c) >= 0) {
                wantsOne = true;
            } else {
                char top = open.isEmpty() ? ' ' : open.charAt(open.length() - 1);
                String below = open.isEmpty() ? "" : open.substring(0, open.length() - 1);
                if (top == '[' && c == '?') {
                    open = below + "?";
                    wantsOne = true;
                } else if (top == '?' && c == ':') {
                    open = below + ":";
                    wantsOne = true;
                } else if (top == '(' && c == ')' || top == ':' && c == ']') {
                    open = withoutMinus(below);
                } else {
                    return i;
                }
            }
        }
        return wantsOne || !open.isEmpty() ? text.length() : -1;
    }

    private static String withoutMinus(String open) {
        int end = open.length();
        while (end > 0 && open.charAt(end - 1) == '-') {
            end--;
        }
        return open.substring(0, end);
    }

    private static void faultsByAnotherReader() {
        Random random = new Random(11);
        String signs = "([-?:])+-*/%<=> 1234 lsf1lsf1lsf";
        ClickStreet s = new ClickStreet();
        int right = 0;
        for (int i = 0; i < 60000; i++) {
            int use = random.nextInt(3);
            String text;
            if (random.nextBoolean()) {
                text = makeText(random, random.nextInt(7)).text;
                if (!text.isEmpty() && random.nextBoolean()) {
                    int place = random.nextInt(text.length());
                    text = text.substring(0, place) + signs.charAt(random.nextInt(signs.length()))
                        + text.substring(place + random.nextInt(2));
                }
            } else {
                StringBuilder made = new StringBuilder();
                for (int n = random.nextInt(12); n > 0; n--) {
                    made.append(signs.charAt(random.nextInt(signs.length())));
                }
                text = made.toString();
            }
            if (text.length() > 48) {
                text = text.substring(0, 48);
            }
            int fault = faultOf(text, use);
            int answer = Due.text(s, use, text);
            if (fault < 0) {
                right++;
            }
            Due.is("fault of '" + text + "', use " + use, answer < 0 ? answer : -1, fault < 0 ? -1 : -10 - fault);
        }
        Due.is("texts without a fault", right > 3000 ? 1 : 0, 1);
    }
}
