/** Terms 6 and 7, promises 29, 30, 32, 33: lessons and rows of them, voices and their trace. */
public final class EdgeLessonTest {
    private static final int MAX = Integer.MAX_VALUE;
    private static final int MIN = Integer.MIN_VALUE;
    private static final String ROW = "A ROW OF LESSONS from KINDS that are known to KINDS that are wanted: one by one, each as its"
        + " NEEDS are known, none twice; till all wanted ones are; in the fewest minutes, of several with the fewest LESSONS, of"
        + " these the first by numbers.";
    private static final String LEARN = "A ROW OF LESSONS, from KINDS known to KINDS wanted (bits): -1 how many minutes, -2 how many"
        + " LESSONS, else the i-th (from 0 on).";

    public static void main(String[] args) {
        lessons();
        lessonRefused();
        rows();
        rowsThatAreFirst();
        learn();
        learnRefused();
        bodies();
        superBodies();
        superFromAbove();
        parted();
        wraps();
        trace();
        voiceRefused();
        Due.end("EdgeLessonTest");
    }

    private static void lessons() {
        String most = "LESSONS 0, 1, .. (at most 7) tell some KINDS (as bits 0 .. 31), if some others are known (NEEDS, as bits),"
            + " in so many minutes (1 .. 99).";
        ClickStreet s = Edge.of("Term 6", most, "the seventh, and one more");
        for (int i = 0; i < 6; i++) {
            Due.is("lesson", s.lesson(1, 0, 1), i);
        }
        Due.is("the seventh", s.lesson(1, 0, 1), 6);
        Due.is("one more", s.lesson(1, 0, 1), Due.FULL);
        s = Edge.of("Term 6", most, "bits 0 and 31");
        Due.is("tells nothing", s.lesson(0, 0, 1), 0);
        Due.is("tells all", s.lesson(31, 0, 1), 1);
        Due.is("needs all", s.lesson(1, 31, 1), 2);
        Due.is("-1", s.lesson(-1, 0, 1), Due.BEYOND);
        Due.is("32", s.lesson(32, 0, 1), Due.BEYOND);
        Due.is("needs -1", s.lesson(1, -1, 1), Due.BEYOND);
        Due.is("needs 32", s.lesson(1, 32, 1), Due.BEYOND);
        s = Edge.of("Term 6", most, "minutes 1 and 99");
        Due.is("0", s.lesson(1, 0, 0), Due.BEYOND);
        Due.is("1", s.lesson(1, 0, 1), 0);
        Due.is("99", s.lesson(2, 0, 99), 1);
        Due.is("100", s.lesson(2, 0, 100), Due.BEYOND);
        Due.is("they count", s.learn(0, 3, -1), 100);
    }

    private static void lessonRefused() {
        ClickStreet s = Edge.of("Promise 29", "A LESSON: its number.", "from 0 on");
        Due.is("first", s.lesson(1, 0, 5), 0);
        Due.is("second, the same", s.lesson(1, 0, 5), 1);
        int[][] bad = {{-1, 0, 5}, {32, 0, 5}, {0, -1, 5}, {0, 32, 5}, {0, 0, 0}, {0, 0, -1}, {0, 0, 100}, {MAX, 0, 5},
            {0, MIN, 5}, {0, 0, MAX}, {0, 0, MIN}};
        for (int[] a : bad) {
            s = Edge.of("Promise 29", "BEYOND: bits, minutes.", a[0] + ", " + a[1] + ", " + a[2]);
            Due.is("lesson", s.lesson(a[0], a[1], a[2]), Due.BEYOND);
            Due.is("none came", s.count(3), 0);
        }
        s = Edge.of("Promise 29", "FULL.", "the eighth");
        for (int i = 0; i < 7; i++) {
            s.lesson(1, 0, 5);
        }
        Due.is("lesson", s.lesson(1, 0, 5), Due.FULL);
        Due.is("LESSONS", s.count(3), 7);
    }

    /** The row, and that nothing stands behind it. */
    private static void rowIs(ClickStreet s, int known, int wanted, int minutes, int... lessons) {
        Due.is("minutes", s.learn(known, wanted, -1), minutes);
        Due.is("LESSONS", s.learn(known, wanted, -2), lessons.length);
        for (int i = 0; i < lessons.length; i++) {
            Due.is("lesson " + i, s.learn(known, wanted, i), lessons[i]);
        }
        Due.is("behind", s.learn(known, wanted, lessons.length), Due.NONE);
    }

    private static void rows() {
        ClickStreet s = Edge.of("Term 6", ROW, "all wanted ones are known");
        s.lesson(1, 0, 1);
        rowIs(s, 31, 31, 0);
        rowIs(s, 0, 0, 0);
        rowIs(s, 6, 2, 0);
        s = Edge.of("Term 6", ROW, "each as its NEEDS are known");
        s.lesson(4, 2, 1);
        s.lesson(2, 1, 1);
        s.lesson(1, 0, 1);
        rowIs(s, 0, 4, 3, 2, 1, 0);
        rowIs(s, 1, 4, 2, 1, 0);
        rowIs(s, 2, 4, 1, 0);
        s = Edge.of("Term 6", ROW, "all of its NEEDS");
        s.lesson(4, 3, 1);
        s.lesson(1, 0, 1);
        Due.is("one of two", s.learn(0, 4, -1), Due.NONE);
        rowIs(s, 2, 4, 2, 1, 0);
        s = Edge.of("Term 6", ROW, "it tells what it needs itself");
        s.lesson(3, 2, 1);
        Due.is("none", s.learn(0, 2, -1), Due.NONE);
        s = Edge.of("Term 6", ROW, "none twice: all seven");
        for (int i = 0; i < 5; i++) {
            s.lesson(1 << i, (1 << i) - 1, 10);
        }
        s.lesson(0, 0, 1);
        s.lesson(0, 31, 1);
        rowIs(s, 0, 31, 50, 0, 1, 2, 3, 4);
        s = Edge.of("Term 6", ROW, "what is known stays known");
        s.lesson(1, 0, 1);
        s.lesson(2, 1, 1);
        rowIs(s, 0, 3, 2, 0, 1);
    }

    private static void rowsThatAreFirst() {
        ClickStreet s = Edge.of("Term 6", ROW, "in the fewest minutes, not the fewest LESSONS");
        s.lesson(3, 0, 11);
        s.lesson(1, 0, 5);
        s.lesson(2, 0, 5);
        rowIs(s, 0, 3, 10, 1, 2);
        s = Edge.of("Term 6", ROW, "of several with the fewest LESSONS");
        s.lesson(1, 0, 5);
        s.lesson(2, 0, 5);
        s.lesson(3, 0, 10);
        rowIs(s, 0, 3, 10, 2);
        s = Edge.of("Term 6", ROW, "of these the first by numbers");
        s.lesson(1, 0, 5);
        s.lesson(1, 0, 5);
        rowIs(s, 0, 1, 5, 0);
        s = Edge.of("Term 6", ROW, "the first by numbers as they stand in the row");
        s.lesson(4, 2, 1);
        s.lesson(2, 0, 3);
        s.lesson(4, 1, 3);
        s.lesson(1, 0, 1);
        // 1, 0 and 3, 2 take 4 minutes each
        rowIs(s, 0, 4, 4, 1, 0);
        s = Edge.of("Term 6", ROW, "both orders do: the lower first");
        s.lesson(2, 0, 5);
        s.lesson(1, 0, 5);
        rowIs(s, 0, 3, 10, 0, 1);
        s = Edge.of("Term 6", ROW, "till all wanted ones are: none that is idle, though it costs 1");
        s.lesson(16, 0, 1);
        s.lesson(1, 0, 5);
        rowIs(s, 0, 1, 5, 1);
    }

    private static void learn() {
        ClickStreet s = Edge.of("Promise 30", LEARN, "-2, -1, 0, the last");
        s.lesson(1, 0, 40);
        s.lesson(2, 1, 7);
        Due.is("-2", s.learn(0, 2, -2), 2);
        Due.is("-1", s.learn(0, 2, -1), 47);
        Due.is("0", s.learn(0, 2, 0), 0);
        Due.is("1", s.learn(0, 2, 1), 1);
        s = Edge.of("Promise 30", LEARN, "bits 31");
        s.lesson(31, 0, 99);
        Due.is("all", s.learn(0, 31, -1), 99);
        Due.is("all known", s.learn(31, 31, -1), 0);
        s = Edge.of("Promise 30", LEARN, "nothing is learned by asking");
        s.lesson(1, 0, 40);
        s.learn(0, 1, -1);
        Due.is("again", s.learn(0, 1, -1), 40);
        Due.is("LESSONS", s.count(3), 1);
        s = Edge.of("Promise 30", LEARN, "without LESSONS");
        Due.is("nothing wanted", s.learn(0, 0, -1), 0);
        Due.is("nothing wanted", s.learn(5, 4, -2), 0);
    }

    private static void learnRefused() {
        int[][] bad = {{-1, 0, -1}, {32, 0, -1}, {0, -1, -1}, {0, 32, -1}, {0, 0, -3}, {MAX, 0, -1}, {0, MIN, -1},
            {0, 0, MIN}};
        for (int[] a : bad) {
            ClickStreet s = Edge.of("Promise 30", "BEYOND.", a[0] + ", " + a[1] + ", " + a[2]);
            s.lesson(31, 0, 1);
            Due.is("learn", s.learn(a[0], a[1], a[2]), Due.BEYOND);
        }
        String none = "NONE: there is none; it has not so many.";
        for (int what = -2; what <= 1; what++) {
            ClickStreet s = Edge.of("Promise 30", none, "there is none: what " + what);
            s.lesson(1, 0, 1);
            Due.is("learn", s.learn(0, 2, what), Due.NONE);
        }
        ClickStreet s = Edge.of("Promise 30", none, "one of two wanted can't be told");
        s.lesson(1, 0, 1);
        Due.is("learn", s.learn(0, 3, -1), Due.NONE);
        s = Edge.of("Promise 30", none, "it has not so many");
        s.lesson(1, 0, 1);
        Due.is("1 of 1", s.learn(0, 1, 1), Due.NONE);
        Due.is("7", s.learn(0, 1, 7), Due.NONE);
        Due.is("the greatest", s.learn(0, 1, MAX), Due.NONE);
        Due.is("0 of 0", s.learn(1, 1, 0), Due.NONE);
    }

    // ---- voices

    private static void said(ClickStreet s, int walker, int act, int x, int due, int... bodies) {
        Due.is("voice", s.voice(walker, act, x), due);
        Due.is("BODIES", s.count(6), bodies.length);
        for (int i = 0; i < bodies.length; i++) {
            Due.is("BODY " + i, s.trace(i), bodies[i]);
        }
    }

    private static void bodies() {
        String walker = "WALKER: 10 sounds: x + p. 11 hears: sounds(x) * 2. 12 knows: hears(x) - n. 13 tells: x by (n - 3), cut";
        ClickStreet s = Edge.of("Term 7", walker, "n 0 and 7, p 1 and 9");
        for (int i = 0; i < 8; i++) {
            s.walker(0, i, 0);
        }
        s.habit(0, 1, 60, 0);
        s.habit(7, 9, 60, 0);
        said(s, 0, 0, 0, 1, 10);
        said(s, 0, 1, 0, 2, 11, 10);
        said(s, 0, 2, 0, 2, 12, 11, 10);
        said(s, 7, 0, -9, 0, 10);
        said(s, 7, 2, 1, 13, 12, 11, 10);
        said(s, 7, 3, 7, 1, 13);
        said(s, 7, 3, -7, -1, 13);
        said(s, 7, 3, 3, 0, 13);
        said(s, 0, 3, 7, -2, 13);
        said(s, 4, 3, -7, -7, 13);
        said(s, 2, 3, -7, 7, 13);
        String acts = "n is its number, p its PITCH: 0 sounds, 1 hears, 2 knows, 3 tells.";
        s = Edge.of("Term 7", acts, "each act, n 1, p 7");
        s.walker(0, 1, 0);
        s.walker(0, 2, 0);
        s.habit(1, 7, 60, 0);
        said(s, 1, 0, 3, 10, 10);
        said(s, 1, 1, 3, 20, 11, 10);
        said(s, 1, 2, 3, 19, 12, 11, 10);
        said(s, 1, 3, 3, -1, 13);
        Due.is("act -1", s.voice(1, -1, 3), Due.BEYOND);
        Due.is("act 4", s.voice(1, 4, 3), Due.BEYOND);
        String next = "sounds(..) is the BODY of its KIND, or of the next KIND above that has one;";
        s = Edge.of("Term 7", next, "none of its own: NEW sounds, OLD sounds, RIDING hears");
        s.walker(5, 1, 0);
        s.walker(6, 2, 0);
        s.walker(7, 3, 0);
        said(s, 0, 0, 1, 18, 20, 10);
        said(s, 1, 0, 1, -6, 40, 10);
        said(s, 2, 1, 1, 36, 11, 20, 10);
        s = Edge.of("Term 7", next, "its own: BODIES above call those of its KIND");
        s.walker(5, 1, 0);
        said(s, 0, 2, 1, 48, 12, 60, 11, 20, 10);
    }

    private static void superBodies() {
        String kinds = "CLICKING: 20 sounds: super.sounds(x) * 3. 21 tells: super.tells(x) + knows(1). TAPPING: 30 hears:"
            + " super.hears(x) ^ p. LISTENING: 40 sounds: 0 - super.sounds(x). 41 knows: super.knows(x) + 5. LED: 50 knows:"
            + " super.knows(x - 1). NEW: 60 hears: super.hears(x + 2). OLD: 70 hears: super.hears(x) / 2. 71 knows: super.knows(x)"
            + " - sounds(2). RIDING: 80 tells: super.tells(x) - hears(x).";
        ClickStreet s = Edge.of("Term 7", kinds, "CLICKING, x 0");
        s.walker(1, 1, 0);
        said(s, 0, 0, 0, 15, 20, 10);
        said(s, 0, 1, 0, 30, 11, 20, 10);
        said(s, 0, 2, 0, 30, 12, 11, 20, 10);
        said(s, 0, 3, 0, 36, 21, 13, 12, 11, 20, 10);
        s = Edge.of("Term 7", kinds, "TAPPING, x 0 and below");
        s.walker(2, 1, 0);
        said(s, 0, 1, 0, 10 ^ 5, 30, 11, 10);
        said(s, 0, 1, -5, 5, 30, 11, 10);
        said(s, 0, 1, -6, -2 ^ 5, 30, 11, 10);
        said(s, 0, 0, 0, 5, 10);
        said(s, 0, 2, 0, 10 ^ 5, 12, 30, 11, 10);
        said(s, 0, 3, 9, -3, 13);
        s = Edge.of("Term 7", kinds, "LISTENING, x 0");
        s.walker(3, 1, 0);
        said(s, 0, 0, 0, -5, 40, 10);
        said(s, 0, 2, 0, -5, 41, 12, 11, 40, 10);
        said(s, 0, 1, 0, -10, 11, 40, 10);
        said(s, 0, 3, 9, -3, 13);
        s = Edge.of("Term 7", kinds, "LED, x 0");
        s.walker(4, 1, 0);
        said(s, 0, 2, 0, 8, 50, 12, 11, 10);
        said(s, 0, 3, 9, -3, 13);
        said(s, 0, 1, 0, 10, 11, 10);
        s = Edge.of("Term 7", kinds, "NEW, x -2");
        s.walker(5, 1, 0);
        said(s, 0, 1, -2, 30, 60, 11, 20, 10);
        said(s, 0, 3, 0, 48, 21, 13, 12, 60, 11, 20, 10);
        s = Edge.of("Term 7", kinds, "OLD, x 0");
        s.walker(6, 1, 0);
        said(s, 0, 1, 0, -5, 70, 11, 40, 10);
        said(s, 0, 2, 0, -5 + 5 + 7, 71, 41, 12, 70, 11, 40, 10, 40, 10);
        s = Edge.of("Term 7", kinds, "RIDING, x 0");
        s.walker(7, 1, 0);
        said(s, 0, 3, 0, 36 - 30, 80, 21, 13, 12, 11, 20, 10, 11, 20, 10);
    }

    private static void superFromAbove() {
        String above = "super.sounds(..) that from the KIND above the BODY's on.";
        ClickStreet s = Edge.of("Term 7", above, "RIDING: 21 is of CLICKING, its super is WALKER's");
        s.walker(7, 1, 0);
        said(s, 0, 3, 6, -2 + 36 - 66, 80, 21, 13, 12, 11, 20, 10, 11, 20, 10);
        s = Edge.of("Term 7", above, "NEW: none in CLICKING, that of WALKER");
        s.walker(5, 1, 0);
        said(s, 0, 1, 1, 48, 60, 11, 20, 10);
        s = Edge.of("Term 7", above, "OLD: from LISTENING on, from there from WALKER on");
        s.walker(6, 1, 0);
        said(s, 0, 2, 1, -6 + 5 + 7, 71, 41, 12, 70, 11, 40, 10, 40, 10);
    }

    private static void parted() {
        String parted = "(PARTED if that is 0; that is all that voice() answers then).";
        for (int kind = 0; kind < 8; kind++) {
            ClickStreet s = Edge.of("Term 7", parted, "KIND " + kind);
            for (int i = 0; i < 3; i++) {
                s.walker(kind, i, 0);
            }
            s.walker(kind, 3, 0);
            s.walker(kind, 4, 0);
            Due.is("n 3", s.voice(3, 3, 7), Due.PARTED);
            Due.is("n 3, x 0", s.voice(3, 3, 0), Due.PARTED);
            Due.is("n 2 and 4 are not", s.voice(2, 3, 7) == Due.PARTED || s.voice(4, 3, 7) == Due.PARTED ? 1 : 0, 0);
            Due.is("other acts are not", s.voice(3, 0, 7) == Due.PARTED || s.voice(3, 1, 7) == Due.PARTED
                || s.voice(3, 2, 7) == Due.PARTED ? 1 : 0, 0);
            Due.is("told", s.told(6), 2);
        }
    }

    private static void wraps() {
        String wrap = "VOICES of a WALKER, with a number x (ints that wrap);";
        ClickStreet s = Edge.of("Term 7", wrap, "x + p");
        s.walker(0, 1, 0);
        said(s, 0, 0, MAX, MIN + 4, 10);
        said(s, 0, 0, MIN, MIN + 5, 10);
        s = Edge.of("Term 7", wrap, "* 2");
        s.walker(0, 1, 0);
        said(s, 0, 1, MAX, 8, 11, 10);
        said(s, 0, 1, MIN, 10, 11, 10);
        s = Edge.of("Term 7", wrap, "* 3");
        s.walker(1, 1, 0);
        said(s, 0, 0, MAX - 5, MAX - 2, 20, 10);
        s = Edge.of("Term 7", wrap, "0 - the least");
        s.walker(3, 1, 0);
        said(s, 0, 0, MIN - 5, MIN, 40, 10);
        s = Edge.of("Term 7", wrap, "x - 1, x + 2");
        s.walker(4, 1, 0);
        s.walker(5, 2, 0);
        said(s, 0, 2, MIN, (MAX + 5) * 2, 50, 12, 11, 10);
        said(s, 1, 1, MAX, (MIN + 1 + 5) * 3 * 2, 60, 11, 20, 10);
        s = Edge.of("Term 7", wrap, "- n");
        s.walker(0, 1, 0);
        s.walker(0, 2, 0);
        // (x + 5) * 2 is the least
        said(s, 1, 2, (1 << 30) - 5, MAX, 12, 11, 10);
        s = Edge.of("Term 7", wrap, "the least by -1");
        for (int i = 0; i < 3; i++) {
            s.walker(0, i, 0);
        }
        said(s, 2, 3, MIN, MIN, 13);
    }

    private static void trace() {
        String trace = "THE TRACE: the numbers of BODIES of the latest voice(), as they began (what stands left is worked out first),"
            + " the first 30.";
        ClickStreet s = Edge.of("Term 7", trace, "none at first");
        Due.is("BODIES", s.count(6), 0);
        s = Edge.of("Term 7", trace, "of the latest alone");
        s.walker(1, 1, 0);
        said(s, 0, 3, 5, 36 - 1, 21, 13, 12, 11, 20, 10);
        said(s, 0, 0, 5, 30, 20, 10);
        Due.is("no more", s.trace(2), Due.NONE);
        s = Edge.of("Term 7", trace, "what stands left is worked out first");
        s.walker(7, 1, 0);
        said(s, 0, 3, 0, 6, 80, 21, 13, 12, 11, 20, 10, 11, 20, 10);
        s = Edge.of("Term 7", trace, "the longest is below 30");
        int most = 0;
        for (int kind = 0; kind < 8; kind++) {
            s.walker(kind, kind, 0);
            for (int act = 0; act < 4; act++) {
                s.voice(kind, act, 1);
                most = Math.max(most, s.count(6));
            }
        }
        Due.is("BODIES of RIDING tells", most, 10);
        String none = "NONE: there is none such.";
        s = Edge.of("Promise 33", none, "at first");
        Due.is("0", s.trace(0), Due.NONE);
        Due.is("-1", s.trace(-1), Due.NONE);
        s = Edge.of("Promise 33", none, "ahead, behind");
        s.walker(0, 1, 0);
        s.voice(0, 1, 5);
        Due.is("-1", s.trace(-1), Due.NONE);
        Due.is("2 of 2", s.trace(2), Due.NONE);
        Due.is("30", s.trace(30), Due.NONE);
        Due.is("the greatest", s.trace(MAX), Due.NONE);
        Due.is("the least", s.trace(MIN), Due.NONE);
        s = Edge.of("Promise 33", "THE TRACE's i-th.", "the first, the last");
        s.walker(0, 1, 0);
        s.voice(0, 1, 5);
        Due.is("0", s.trace(0), 11);
        Due.is("1", s.trace(1), 10);
    }

    private static void voiceRefused() {
        int[][] bad = {{-1, 0}, {1, 0}, {0, -1}, {0, 4}, {MAX, 0}, {0, MIN}, {0, MAX}};
        for (int[] a : bad) {
            ClickStreet s = Edge.of("Promise 32", "BEYOND.", "WALKER " + a[0] + ", act " + a[1]);
            s.walker(0, 1, 0);
            Due.is("voice", s.voice(a[0], a[1], 5), Due.BEYOND);
            Due.is("BODIES", s.count(6), 0);
        }
        ClickStreet s = Edge.of("Promise 32", "PARTED.", "WALKER 3 tells");
        for (int i = 0; i < 4; i++) {
            s.walker(0, i, 0);
        }
        Due.is("voice", s.voice(3, 3, 5), Due.PARTED);
        s = Edge.of("Promise 32", "A VOICE of a WALKER.", "any x, below 0 too");
        s.walker(0, 1, 0);
        Due.is("-5", s.voice(0, 0, -5), 0);
        Due.is("the least", s.voice(0, 0, MIN), MIN + 5);
    }
}
