import java.util.Random;

/** Promises 29 and 30: lessons, and rows of them. */
public final class LessonTest {
    public static void main(String[] args) {
        lessons();
        rows();
        ties();
        rowsByTrying();
        Due.end("LessonTest");
    }

    private static void lessons() {
        ClickStreet s = new ClickStreet();
        Due.is("tells -1", s.lesson(-1, 0, 1), Due.BEYOND);
        Due.is("tells 32", s.lesson(32, 0, 1), Due.BEYOND);
        Due.is("needs -1", s.lesson(0, -1, 1), Due.BEYOND);
        Due.is("needs 32", s.lesson(0, 32, 1), Due.BEYOND);
        Due.is("minutes 0", s.lesson(0, 0, 0), Due.BEYOND);
        Due.is("minutes 100", s.lesson(0, 0, 100), Due.BEYOND);
        Due.is("all", s.lesson(31, 31, 99), 0);
        Due.is("nothing", s.lesson(0, 0, 1), 1);
        for (int i = 2; i < 7; i++) {
            Due.is("more", s.lesson(1, 0, 5), i);
        }
        Due.is("the eighth", s.lesson(1, 0, 5), Due.FULL);
        Due.is("BEYOND ahead of FULL", s.lesson(1, 0, 0), Due.BEYOND);
        Due.is("how many", s.count(3), 7);
    }

    private static void rows() {
        ClickStreet s = new ClickStreet();
        Due.is("nothing wanted: minutes", s.learn(0, 0, -1), 0);
        Due.is("nothing wanted: LESSONS", s.learn(0, 0, -2), 0);
        Due.is("nothing wanted: the first", s.learn(0, 0, 0), Due.NONE);
        Due.is("without LESSONS", s.learn(0, 1, -2), Due.NONE);
        s.lesson(4, 3, 10);
        s.lesson(2, 1, 20);
        s.lesson(1, 0, 30);
        Due.is("minutes", s.learn(0, 4, -1), 60);
        Due.is("LESSONS", s.learn(0, 4, -2), 3);
        Due.is("first", s.learn(0, 4, 0), 2);
        Due.is("second", s.learn(0, 4, 1), 1);
        Due.is("third", s.learn(0, 4, 2), 0);
        Due.is("fourth", s.learn(0, 4, 3), Due.NONE);
        Due.is("far behind", s.learn(0, 4, Integer.MAX_VALUE), Due.NONE);
        Due.is("known", s.learn(1, 4, -1), 30);
        Due.is("known: no more than is wanted", s.learn(3, 2, -2), 0);
        Due.is("one is told by none", s.learn(0, 12, -1), Due.NONE);
        Due.is("known -1", s.learn(-1, 0, -1), Due.BEYOND);
        Due.is("known 32", s.learn(32, 0, -1), Due.BEYOND);
        Due.is("wanted -1", s.learn(0, -1, -1), Due.BEYOND);
        Due.is("wanted 32", s.learn(0, 32, -1), Due.BEYOND);
        Due.is("what -3", s.learn(0, 1, -3), Due.BEYOND);
        Due.is("what -3 ahead of NONE", s.learn(0, 16, -3), Due.BEYOND);
        s.lesson(16, 8, 1);
        Due.is("NEEDS that none tells", s.learn(0, 16, -1), Due.NONE);
        s.lesson(8, 8, 1);
        Due.is("a LESSON that needs itself", s.learn(0, 8, -1), Due.NONE);
    }

    private static void ties() {
        ClickStreet s = new ClickStreet();
        s.lesson(1, 0, 5);
        s.lesson(2, 0, 5);
        s.lesson(3, 0, 10);
        Due.is("the fewest LESSONS of 10 minutes", s.learn(0, 3, -2), 1);
        Due.is("that one", s.learn(0, 3, 0), 2);
        s.lesson(3, 0, 9);
        Due.is("the fewest minutes", s.learn(0, 3, -1), 9);
        Due.is("that one", s.learn(0, 3, 0), 3);
        s = new ClickStreet();
        s.lesson(8, 0, 1);
        s.lesson(3, 0, 40);
        s.lesson(2, 0, 4);
        s.lesson(1, 0, 4);
        s.lesson(1, 0, 4);
        Due.is("two LESSONS", s.learn(0, 3, -2), 2);
        Due.is("the first by numbers", s.learn(0, 3, 0), 2);
        Due.is("the next by numbers", s.learn(0, 3, 1), 3);
        s = new ClickStreet();
        s.lesson(4, 2, 1);
        s.lesson(4, 1, 2);
        s.lesson(1, 0, 1);
        s.lesson(2, 0, 2);
        Due.is("the first by numbers, as they come", s.learn(0, 4, 0), 2);
        Due.is("behind it", s.learn(0, 4, 1), 1);
    }

    private static void rowsByTrying() {
        Random random = new Random(9);
        int found = 0;
        for (int run = 0; run < 400; run++) {
            int n = 1 + random.nextInt(5);
            int[] tells = new int[n];
            int[] needs = new int[n];
            int[] minutes = new int[n];
            ClickStreet s = new ClickStreet();
            for (int i = 0; i < n; i++) {
                tells[i] = random.nextInt(32) & random.nextInt(32);
                needs[i] = random.nextInt(32) & random.nextInt(32) & random.nextInt(32);
                minutes[i] = 1 + random.nextInt(6);
                s.lesson(tells[i], needs[i], minutes[i]);
            }
            int known = random.nextInt(32) & random.nextInt(32) & random.nextInt(32);
            int wanted = random.nextInt(32) & random.nextInt(32);
            int best = Integer.MAX_VALUE;
            int[] row = null;
            for (int length = 0; length <= n; length++) {
                int rows = 1;
                for (int i = 0; i < length; i++) {
                    rows *= n;
                }
                for (int code = 0; code < rows; code++) {
                    int[] tried = rowOf(code, length, n);
                    int cost = costOf(tried, known, wanted, tells, needs, minutes);
                    if (cost >= 0 && cost < best) {
                        best = cost;
                        row = tried;
                    }
                }
            }
            Due.is("minutes, run " + run, s.learn(known, wanted, -1), row == null ? Due.NONE : best);
            Due.is("LESSONS, run " + run, s.learn(known, wanted, -2), row == null ? Due.NONE : row.length);
            for (int i = 0; i <= n; i++) {
                Due.is("row, run " + run, s.learn(known, wanted, i),
                    row == null || i >= row.length ? Due.NONE : row[i]);
            }
            found += row == null ? 0 : 1;
        }
        Due.is("rows found", found > 100 ? 1 : 0, 1);
    }

    private static int[] rowOf(int code, int length, int n) {
        int[] row = new int[length];
        for (int i = length - 1; i >= 0; i--) {
            row[i] = code % n;
            code /= n;
        }
        return row;
    }

    /** The minutes of a row, or -1 if it is none. */
    private static int costOf(int[] row, int known, int wanted, int[] tells, int[] needs, int[] minutes) {
        int knows = known;
        int used = 0;
        int cost = 0;
        for (int lesson : row) {
            if ((used >> lesson & 1) == 1 || (needs[lesson] & ~knows) != 0) {
                return -1;
            }
            used |= 1 << lesson;
            knows |= tells[lesson];
            cost += minutes[lesson];
        }
        return (wanted & ~knows) == 0 ? cost : -1;
    }
}
