import java.util.Random;

/**
 * Calls at random: none throws, one that answers an ERROR changes nothing, told() counts each,
 * restore() brings all back, and the same calls give the same answers.
 */
public final class AnyCallTest {
    private static final int LOW = -1000000;
    private static final int[] WILD = {
        -1, Integer.MIN_VALUE, Integer.MAX_VALUE, -2, 1000000, 192, 100, 40, 24, 10, 9, 8, 7, 4, 32, 31, 255, 256
    };
    private static final String[] TEXTS = {
        "l*o/50-y", "[p>3?l:o]", "s>n+t/9", "1", "0", "[f=1?1:0]", "[t%5?0:1]", "[b>r?3:l]", "f-b", "(((1", "l+", "s",
        "0-t", "999*999*l", "t", "[f?[l?[r?2:1]:3]:0]"
    };

    public static void main(String[] args) {
        for (int run = 0; run < 300; run++) {
            runOnce(run, run % 4);
        }
        Due.end("AnyCallTest");
    }

    private static void runOnce(int seed, int wild) {
        Random random = new Random(seed);
        ClickStreet s = new ClickStreet();
        ClickStreet twin = new ClickStreet();
        int[] told = new int[7];
        String image = null;
        for (int call = 0; call < 512; call++) {
            int act = random.nextInt(42);
            int[] a = arguments(random, act, wild);
            String before = stateOf(s);
            int waiting = s.count(5);
            int answer;
            try {
                answer = call(s, act, a);
            } catch (RuntimeException thrown) {
                Due.is("run " + seed + ", act " + act + ": " + thrown, 1, 0);
                return;
            }
            Due.is("run " + seed + ", the same for the same", call(twin, act, a), answer);
            boolean isError = answer < LOW && answer >= LOW - 6;
            if (isError) {
                told[LOW - answer]++;
                String after = stateOf(s);
                if (act == 38) {
                    Due.is("none wait", s.count(5), 0);
                    before = before.replace("waiting " + waiting + ";", "waiting 0;");
                }
                Due.is("run " + seed + ", act " + act + " changed what an ERROR leaves", before.equals(after) ? 1 : 0, 1);
            }
            if (isQuestion(act)) {
                Due.is("run " + seed + ", act " + act + " changed what it asks", before.equals(stateOf(s)) ? 1 : 0, 1);
            }
            if (act == 36 && answer > 0) {
                image = before;
            }
            if (act == 37 && image != null) {
                Due.is("run " + seed + ", all is as the image has it", image.equals(stateOf(s)) ? 1 : 0, 1);
            }
            for (int k = 1; k <= 6; k++) {
                Due.is("run " + seed + ", told(" + k + ")", s.told(k), told[k]);
            }
        }
    }

    /** Acts that only ask. */
    private static boolean isQuestion(int act) {
        return ",1,5,8,9,10,16,18,19,20,21,22,23,25,26,28,29,31,39,40,".contains("," + act + ",");
    }

    private static int[] arguments(Random random, int act, int wild) {
        int[] most = mostOf(act);
        int[] a = new int[5];
        for (int i = 0; i < 5; i++) {
            boolean isWild = wild > 0 && random.nextInt(wild == 1 ? 3 : 30) == 0;
            a[i] = isWild ? WILD[random.nextInt(WILD.length)] : i < most.length ? random.nextInt(most[i] + 1) : 0;
        }
        boolean hasClick = act == 16 || act == 20;
        if (hasClick && a[1] >= 0 && a[1] < 9) {
            a[1] = 100 * (1 + a[1]) + 1 + random.nextInt(99);
        }
        if (act == 22 && a[2] >= 0 && a[2] < 9) {
            a[2] = 100 * (1 + a[2]) + 1 + random.nextInt(99);
        }
        return a;
    }

    /** The most that each argument is, if it is not wild. */
    private static int[] mostOf(int act) {
        int[][] most = {
            {4, 191}, {41, 3}, {41, 7, 20}, {41}, {4, 1, 9}, {191}, {3, 11}, {2, 1}, {7, 191, 7}, {7, 11}, {7, 7},
            {7, 9, 99, 3}, {7, 7}, {7, 1}, {15, 8}, {2}, {7, 8, 7, 5}, {7}, {7, 191, 2}, {7, 3}, {7, 8, 6, 7, 120},
            {7, 4, 8, 1}, {7, 4, 8}, {7, 3, 3, 1}, {30}, {7, 191, 20}, {7}, {31, 15, 20}, {7, 31, 6}, {7, 3, 3, 1},
            {7, 3, 100}, {12}, {3, 32, 24}, {3, 23, 191}, {3, 20, 3, 20, 10}, {7, 191, 7}, {0}, {0}, {7}, {8}, {6},
            {191}
        };
        return act < most.length ? most[act] : new int[0];
    }

    private static int call(ClickStreet s, int act, int[] a) {
        return act < 24 ? callFirst(s, act, a) : callSecond(s, act, a);
    }

    private static int callFirst(ClickStreet s, int act, int[] a) {
        switch (act) {
            case 0: return s.thing(a[0], a[1]);
            case 1: return s.thingIs(a[0], a[1]);
            case 2: return s.moves(a[0], a[1], a[2]);
            case 3: return s.away(a[0]);
            case 4: return s.kind(a[0], a[1], a[2]);
            case 5: return s.at(a[0]);
            case 6: return s.lays(a[0], a[1]);
            case 7: return s.air(a[0], a[1]);
            case 8: return s.walkerIs(a[0], a[2]);
            case 9: return s.walkerIs(a[0], a[1]);
            case 10: return s.as(a[0], a[1]);
            case 11: return s.habit(a[0], a[1], a[2], a[3]);
            case 12: return s.face(a[0], a[1]);
            case 13: return s.goes(a[0], a[1] != 0);
            case 14: return a[0] < 0 ? s.feed(a[0] * 99991L, a[1]) : fed(s, a[0]);
            case 15: return s.text(a[0]);
            case 16: return s.echo(a[0], a[1], a[2], a[3]);
            case 17: return s.click(a[0]);
            case 18: return s.head(a[0], a[1], a[2]);
            case 19: return s.heads(a[0], a[1]);
            case 20: return s.alike(a[0], a[1], a[2], a[3], a[4]);
            case 21: return s.least(a[0], a[1], a[2], a[3]);
            case 22: return s.farthest(a[0], a[1], a[2]);
            default: return s.spots(a[0], a[1], a[2], a[3]);
        }
    }

    /** Eight bytes of one of the texts. */
    private static int fed(ClickStreet s, int number) {
        String text = TEXTS[number % TEXTS.length];
        int n = Math.min(8, text.length());
        long word = 0;
        for (int i = 0; i < n; i++) {
            word |= (long) text.charAt(i) << (8 * i);
        }
        return s.feed(word, n);
    }

    private static int callSecond(ClickStreet s, int act, int[] a) {
        switch (act) {
            case 24: return s.tenths(a[0]);
            case 25: return s.way(a[0], a[1], a[2]);
            case 26: return s.safe(a[0]);
            case 27: return s.lesson(a[0], a[1], a[2]);
            case 28: return s.learn(a[0], a[1], a[2]);
            case 29: return s.posts(a[0], a[1], a[2], a[3]);
            case 30: return s.walker(a[0], a[2], a[1]);
            case 31: return s.trace(a[0]);
            case 32: return s.sheet(a[0], a[1] / 8 * 8, a[2]);
            case 33: return s.put(a[0], a[1], a[2]);
            case 34: return s.move(a[0], a[1], a[2], a[3], a[4]);
            case 35: return s.voice(a[0], a[1] & 3, a[2]);
            case 36: return s.image();
            case 37: return s.restore();
            case 38: return s.check(a[0]);
            case 39: return s.count(a[0]);
            case 40: return s.told(a[0]) < 0 ? -1000001 : 0;
            default: return s.tell(a[0]);
        }
    }

    /** All that can be asked without an ERROR, but what told() tells, the sheets and the trace. */
    private static String stateOf(ClickStreet s) {
        StringBuilder state = new StringBuilder();
        for (int what = 0; what <= 8; what++) {
            if (what != 6) {
                state.append(what == 5 ? "waiting " : "count ").append(s.count(what)).append(';');
            }
        }
        for (int cell = 0; cell < 192; cell++) {
            int who = s.at(cell);
            state.append(who).append(' ');
            for (int what = 0; what < 4 && who >= 0 && who < 100; what++) {
                state.append(s.thingIs(who, what)).append(' ');
            }
        }
        for (int walker = 0; walker < s.count(2); walker++) {
            for (int what = 0; what < 12; what++) {
                state.append(s.walkerIs(walker, what)).append(' ');
            }
            for (int what = 0; what < 4; what++) {
                state.append(s.heads(walker, what)).append(' ');
            }
            for (int cell = 0; cell < 192; cell += 3) {
                state.append(s.head(walker, cell, 0)).append(' ').append(s.head(walker, cell, 1)).append(' ');
            }
        }
        for (int kind = 0; kind < 5; kind++) {
            for (int what = 0; what < 2; what++) {
                int v = s.kind(kind, what, 0);
                s.kind(kind, what, v);
                state.append(v).append(' ');
            }
        }
        for (int what = 0; what < 3; what++) {
            int v = s.air(what, 0);
            s.air(what, v);
            state.append(v).append(' ');
        }
        return state.append(';').toString();
    }
}
