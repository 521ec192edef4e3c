/** What the tests share: the answers that are due, and short ways to feed texts and fill sheets. */
final class Due {
    static final int BEYOND = -1000001;
    static final int NONE = -1000002;
    static final int STATE = -1000003;
    static final int FULL = -1000004;
    static final int KIND = -1000005;
    static final int PARTED = -1000006;

    private static int asked = 0;
    private static int wrong = 0;
    private static String part = "";
    private static int askedBefore = -1;

    private Due() {
    }

    static void is(String call, long got, long want) {
        asked++;
        if (got != want) {
            wrong++;
            System.out.println(part + call + " answered " + got + ", due is " + want);
        }
    }

    /** What must be so, but is no answer of the program. */
    static void stands(String what, boolean is) {
        if (!is) {
            wrong++;
            System.out.println(part + what + ": it is not so");
        }
    }

    /** A part of a test, that asks at least one answer. */
    static void begin(String name) {
        stands("it asks something", asked != askedBefore);
        part = name.isEmpty() ? "" : name + ": ";
        askedBefore = asked;
    }

    /** Feeds a text to the tape. */
    static void feed(ClickStreet street, String text) {
        for (int from = 0; from < text.length(); from += 8) {
            int n = Math.min(8, text.length() - from);
            long word = 0;
            for (int i = 0; i < n; i++) {
                word |= (long) (text.charAt(from + i) & 255) << (8 * i);
            }
            street.feed(word, n);
        }
    }

    static int text(ClickStreet street, int use, String text) {
        feed(street, text);
        return street.text(use);
    }

    static void sheet(ClickStreet street, int sheet, int bits, int... numbers) {
        street.sheet(sheet, bits, numbers.length);
        for (int i = 0; i < numbers.length; i++) {
            street.put(sheet, i, numbers[i]);
        }
    }

    static int cell(int x, int y) {
        return 16 * y + x;
    }

    static void end(String test) {
        begin("");
        askedBefore = -1;
        System.out.println(test + ": " + asked + " answers asked, " + wrong + " not as due");
        if (wrong != 0) {
            System.exit(1);
        }
    }
}
