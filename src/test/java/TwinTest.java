import java.lang.reflect.InvocationTargetException;
import java.lang.reflect.Method;
import java.util.HashMap;
import java.util.Map;
import java.util.Random;

/** Runs of calls at random, each answered by the class and by the document's second reading. */
public final class TwinTest {
    private static final Map<String, Method> FIRST = new HashMap<>();
    private static final Map<String, Method> SECOND = new HashMap<>();
    private static final String[] ALWAYS = {"tenths", "click", "echo", "walkerIs", "thingIs", "at", "head", "count"};
    private static final String[][] MIXES = {
        {"thing", "thingIs", "moves", "away", "kind", "at", "lays", "air", "walker", "walkerIs", "as", "habit", "face",
            "goes", "text", "echo", "click", "head", "heads", "alike", "least", "farthest", "spots", "tenths", "way",
            "safe", "lesson", "learn", "posts", "voice", "trace", "sheet", "put", "move", "image", "restore", "tell",
            "check", "count", "told", "feed", "raw"},
        {"tenths", "tenths", "text", "goes", "face", "habit", "way", "safe", "check", "tell", "tell", "heads", "away"},
        {"echo", "echo", "alike", "alike", "least", "farthest", "kind", "air", "text", "click", "safe"},
        {"sheet", "put", "put", "cells", "cells", "spots", "spots", "posts", "some posts", "some posts", "move", "lays",
            "click", "habit"},
        {"lesson", "learn", "learn", "voice", "voice", "trace", "habit", "image", "restore", "told"}
    };
    private static final int[] WILD = {
        Integer.MIN_VALUE, Integer.MAX_VALUE, -1000, -7, -3, -2, 1000, 192, 256, 65536 + 5, -65536 + 100, 512
    };

    private final Random random;
    private final int wild;
    private final String name;
    private final ClickStreet first = new ClickStreet();
    private final SecondStreet second = new SecondStreet();
    private final StringBuilder said = new StringBuilder();
    private boolean isWrong = false;
    private static final Map<String, Integer> RIGHT = new HashMap<>();

    private TwinTest(int seed) {
        random = new Random(seed);
        wild = new int[] {0, 0, 60, 12}[seed % 4];
        name = "run " + seed;
    }

    public static void main(String[] args) {
        for (Method method : ClickStreet.class.getMethods()) {
            if (method.getDeclaringClass() == ClickStreet.class) {
                FIRST.put(method.getName(), method);
            }
        }
        for (Method method : SecondStreet.class.getDeclaredMethods()) {
            if (FIRST.containsKey(method.getName()) && !method.isSynthetic()) {
                SECOND.put(method.getName(), method);
            }
        }
        int runs = args.length > 0 ? Integer.parseInt(args[0]) : 500;
        for (int seed = 0; seed < runs; seed++) {
            new TwinTest(seed).run();
        }
        for (String act : FIRST.keySet()) {
            Due.is(act + " answered other than by an ERROR", RIGHT.getOrDefault(act, 0) > 40 ? 1 : 0, 1);
        }
        Due.end("TwinTest");
    }

    private int ask(String act, Object... args) {
        said.append(act).append('(');
        for (int i = 0; i < args.length; i++) {
            said.append(i == 0 ? "" : ", ").append(args[i]);
        }
        try {
            int want = (Integer) SECOND.get(act).invoke(second, args);
            int got = (Integer) FIRST.get(act).invoke(first, args);
            said.append(") ").append(got).append("; ");
            Due.is(act, got == want ? 1 : 0, 1);
            if (got > -1000000) {
                RIGHT.merge(act, 1, Integer::sum);
            }
            if (got != want && !isWrong) {
                isWrong = true;
                System.out.println(name + ": " + said + "due is " + want);
            }
            return got;
        } catch (IllegalAccessException | InvocationTargetException wrong) {
            Due.is(name + ": " + said + wrong + " " + wrong.getCause(), 1, 0);
            isWrong = true;
            return 0;
        }
    }

    private int num(int least, int most) {
        if (wild > 0 && random.nextInt(wild) == 0) {
            int pick = random.nextInt(WILD.length + 6);
            return pick < WILD.length ? WILD[pick] : pick % 2 == 0 ? least - 1 : most + 1;
        }
        return least + random.nextInt(Math.max(1, most - least + 1));
    }

    private int walker() {
        return num(0, Math.max(0, second.view().count(2) - 1));
    }

    private int thing() {
        int cell = random.nextInt(192);
        for (int i = 0; i < 192 && random.nextInt(20) > 0; i++) {
            int there = second.view().at((cell + i) % 192);
            if (there >= 0 && there < 100) {
                return there;
            }
        }
        return num(0, 39);
    }

    private int click() {
        int told = 100 * (random.nextInt(3) == 0 ? num(1, 9) : num(4, 6)) + num(1, 99);
        return wild > 0 && random.nextInt(wild) == 0 ? num(-5, 1000) : told;
    }

    private int cell() {
        // mostly near the others, so that they meet
        int who = second.view().walkerIs(random.nextInt(Math.max(1, second.view().count(2))), 1);
        int near = who + num(-4, 4) + 16 * num(-4, 4);
        return random.nextBoolean() && near >= 0 && near < 192 ? near : num(0, 191);
    }

    private void run() {
        int calls = 512;
        boolean isDense = random.nextInt(3) == 0;
        for (int i = random.nextInt(30) + 3; i > 0; i--) {
            ask("thing", num(0, 4), isDense ? num(0, 6) + 16 * num(0, 5) : num(0, 191));
        }
        for (int i = random.nextInt(6) + 1; i > 0; i--) {
            ask("walker", num(0, 7), isDense ? num(0, 6) + 16 * num(0, 5) : num(0, 191), num(0, 7));
        }
        if (isDense) {
            ask("air", 1, 0);
        }
        for (int i = 0; i < second.view().count(2); i++) {
            ask("goes", i, random.nextInt(3) > 0);
            ask("habit", i, num(1, 9), num(20, 99), num(0, 4));
        }
        for (int i = 0; i < 6; i++) {
            ask("moves", thing(), num(0, 7), num(0, 3));
        }
        String[] mix = MIXES[random.nextInt(MIXES.length)];
        for (int i = 80; i < calls && !isWrong; i++) {
            int from = random.nextInt(8);
            String[] acts = from < 5 ? mix : from < 7 ? MIXES[0] : ALWAYS;
            makeCall(acts[random.nextInt(acts.length)]);
        }
        compareAll();
    }

    private void makeCall(String act) {
        switch (act) {
            case "thing": ask(act, num(0, 4), cell()); break;
            case "thingIs": ask(act, thing(), num(0, 3)); break;
            case "moves": ask(act, thing(), num(0, 7), random.nextBoolean() ? num(0, 3) : num(0, 20)); break;
            case "away": ask(act, thing()); break;
            case "kind": askKind(num(0, 1)); break;
            case "at": ask(act, cell()); break;
            case "lays": ask(act, num(0, 3), num(0, 11)); break;
            case "air": askAir(num(0, 2)); break;
            case "tenths": ask(act, random.nextInt(9) == 0 ? num(1, 100) : num(1, 4)); break;
            case "safe": case "click": case "check": ask(act, walker()); break;
            case "way": ask(act, walker(), cell(), random.nextInt(3) == 0 ? num(-1, 1) : num(-2, 20)); break;
            case "lesson": ask(act, num(0, 31), random.nextInt(num(1, 31) & 31 | 1), num(1, 9)); break;
            case "learn": ask(act, num(0, 31) & num(0, 31), num(0, 31), num(-2, 4)); break;
            case "posts": ask(act, walker(), num(0, 3), num(0, 3), num(0, 1)); break;
            case "spots": ask(act, walker(), num(0, 3), num(1, 3), num(0, 1)); break;
            case "voice": ask(act, walker(), num(0, 3), random.nextInt(4) == 0 ? random.nextInt() : num(-20, 20)); break;
            case "trace": ask(act, num(-1, 11)); break;
            case "raw": ask("feed", random.nextLong(), num(1, 8)); break;
            case "feed": feed(textOf(random.nextInt(3))); break;
            case "text": askText(); break;
            case "image": case "restore": if (random.nextInt(4) == 0) ask(act); break;
            case "count": ask(act, num(0, 8)); break;
            case "told": ask(act, num(1, 6)); break;
            default: makeOtherCall(act); break;
        }
    }

    private void makeOtherCall(String act) {
        switch (act) {
            case "walker": ask(act, num(0, 7), cell(), num(0, 7)); break;
            case "walkerIs": ask(act, walker(), num(0, 11)); break;
            case "as": ask(act, walker(), num(0, 7)); break;
            case "habit": ask(act, walker(), num(1, 9), num(1, 99), random.nextBoolean() ? num(0, 30) : num(0, 3)); break;
            case "face": ask(act, walker(), num(0, 7)); break;
            case "goes": ask(act, walker(), random.nextInt(4) > 0); break;
            case "echo": ask(act, walker(), click(), num(0, 7), num(0, 5)); break;
            case "head": ask(act, walker(), cell(), num(0, 2)); break;
            case "heads": ask(act, walker(), num(0, 3)); break;
            case "alike": askAlike(); break;
            case "least": ask(act, walker(), num(0, 4), num(1, 15), num(0, 1)); break;
            case "farthest": ask(act, walker(), num(0, 4), click()); break;
            case "sheet": ask(act, num(0, 3), num(0, 4) / 4 == 1 ? 0 : 8 << random.nextInt(3), num(0, 12)); break;
            case "put": ask(act, num(0, 3), num(0, 12), random.nextBoolean() ? num(0, 6) : cell()); break;
            case "cells": askCells(); break;
            case "some posts": askPosts(); break;
            case "move": ask(act, num(0, 3), num(0, 5), num(0, 3), num(0, 5), num(0, 5)); break;
            case "tell": askTell(); break;
            default: Due.is("no such act: " + act, 1, 0); break;
        }
    }

    private void askKind(int what) {
        ask("kind", num(0, 4), what, what == 0 ? num(20, 99) : num(0, random.nextInt(3) == 0 ? 9 : 5));
    }

    private void askAir(int what) {
        ask("air", what, what == 0 ? num(0, random.nextInt(3) == 0 ? 99 : 9) : what == 1 ? num(0, 20) : num(0, 1));
    }

    private void askAlike() {
        int who = walker();
        int click = click();
        int side = num(0, 7);
        int yards = num(1, Math.max(1, second.view().walkerIs(who, 9)));
        int strength = num(0, 999);
        // mostly one that some KIND gives
        for (int i = random.nextInt(900); i < 999 + 900 && random.nextInt(4000) > 0; i++) {
            if (second.view().alike(who, click, yards, side, i % 1000) > 0) {
                strength = i % 1000;
                break;
            }
        }
        ask("alike", who, click, yards, side, strength);
    }

    /** A SHEET of CELLS, mostly in sides of one another. */
    private void askCells() {
        int sheet = num(0, 3);
        int n = random.nextInt(8) + 1;
        ask("sheet", sheet, random.nextInt(3) == 0 ? 32 : 16, n);
        int cell = cell();
        for (int i = 0; i < n; i++) {
            ask("put", sheet, i, cell);
            int next = cell + random.nextInt(5) * new int[] {1, -1, 16, -16, 17, -17, 15, -15}[random.nextInt(8)];
            cell = next >= 0 && next < 192 && random.nextInt(5) > 0 ? next : cell();
        }
    }

    /** POSTS for some CELLS, each in a SIDE of one of the POSTS. */
    private void askPosts() {
        int[] posts = new int[random.nextInt(8) + 1];
        int[] cells = new int[random.nextInt(6) + 1];
        ask("sheet", 0, 16, posts.length);
        for (int i = 0; i < posts.length; i++) {
            posts[i] = cell();
            ask("put", 0, i, posts[i]);
        }
        ask("sheet", 1, 32, cells.length);
        for (int j = 0; j < cells.length; j++) {
            int post = posts[random.nextInt(posts.length)];
            int cell = post;
            for (int i = 0; i < 20 && cell == post; i++) {
                int yards = 1 + random.nextInt(4);
                int next = post + yards * new int[] {1, -1, 16, -16, 17, -17, 15, -15}[random.nextInt(8)];
                cell = next >= 0 && next < 192 ? next : post;
            }
            ask("put", 1, j, cell);
        }
        for (int what = 0; what < 2; what++) {
            ask("posts", walker(), 0, 1, what);
        }
    }

    /** Numbers that wait, mostly those that will be. */
    private void askTell() {
        int who = random.nextInt(Math.max(1, second.view().count(2)));
        if (second.view().count(2) == 0 || random.nextInt(4) == 0) {
            ask("tell", cell());
            return;
        }
        int n = 1 + random.nextInt(6);
        int[] cells = new int[n];
        for (int i = 0; i < n; i++) {
            cells[i] = whereBehind(who, i + 1);
        }
        if (second.view().count(5) > 0) {
            ask("check", walker());
        }
        for (int cell : cells) {
            ask("tell", cell);
        }
        ask("check", random.nextInt(4) == 0 ? walker() : who);
    }

    /** Where a walker is so many tenths from now on: the first cell with which check() finds no fault. */
    private int whereBehind(int who, int tenths) {
        SecondStreet thought = second.thought();
        for (int i = 0; i < tenths; i++) {
            if (thought.tenths(1) < 0) {
                return 0;
            }
        }
        return thought.walkerIs(who, 1);
    }

    // ---- texts

    private void askText() {
        int use = num(0, 2);
        if (second.view().count(4) > 0) {
            ask("text", use);
        }
        String text = textOf(use);
        if (random.nextInt(8) == 0 && !text.isEmpty()) {
            int at = random.nextInt(text.length());
            text = text.substring(0, at) + " (<?:]9lsf".charAt(random.nextInt(10)) + text.substring(at + random.nextInt(2));
        }
        feed(text);
        ask("text", use);
    }

    private void feed(String text) {
        int from = 0;
        while (from < text.length()) {
            int n = Math.min(1 + random.nextInt(8), text.length() - from);
            long word = random.nextBoolean() || n == 8 ? 0 : random.nextLong() << (8 * n);
            for (int i = 0; i < n; i++) {
                word |= (long) (text.charAt(from + i) & 255) << (8 * i);
            }
            ask("feed", word, n);
            from += n;
        }
    }

    private String textOf(int use) {
        String[] names = {"loyp", "snt", "flrbt"};
        String[] plain = {"l*o/40-y", "s>n/2", "[f=1?1:[l>r?3:0]]", "o-y*p", "t>9", "[t%7=3?1:f=1]", "l+o", "s", "b+t"};
        if (random.nextInt(3) == 0) {
            return plain[3 * random.nextInt(3) + (use >= 0 && use < 3 ? use : 0)];
        }
        String text = sum(names[use >= 0 && use < 3 ? use : 0], 3);
        return text.length() > 48 ? text.substring(0, 48) : text;
    }

    private String sum(String names, int deep) {
        StringBuilder text = new StringBuilder(one(names, deep));
        for (int n = random.nextInt(3); n > 0; n--) {
            text.append("<=>+-*/%+-*".charAt(random.nextInt(11))).append(one(names, deep));
        }
        return text.toString();
    }

    private String one(String names, int deep) {
        switch (random.nextInt(deep > 0 ? 9 : 5)) {
            case 0: return Integer.toString(random.nextInt(10));
            case 1: return Integer.toString(random.nextInt(1000));
            case 5: return "-" + one(names, deep - 1);
            case 6: return "(" + sum(names, deep - 1) + ")";
            case 7: return "[" + sum(names, deep - 1) + "?" + sum(names, deep - 1) + ":" + sum(names, deep - 1) + "]";
            default: return names.substring(random.nextInt(names.length())).substring(0, 1);
        }
    }

    // ---- all that can be asked

    private void compareAll() {
        for (int cell = 0; cell < 192 && !isWrong; cell++) {
            ask("at", cell);
            for (int who = 0; who < second.view().count(2); who++) {
                ask("head", who, cell, 0);
                ask("head", who, cell, 1);
                ask("head", who, cell, 2);
            }
        }
        for (int thing = 0; thing < 40 && !isWrong; thing++) {
            for (int what = 0; what < 4; what++) {
                ask("thingIs", thing, what);
            }
        }
        for (int who = 0; who < 8 && !isWrong; who++) {
            for (int what = 0; what < 12; what++) {
                ask("walkerIs", who, what);
                ask("heads", who, what);
            }
        }
        for (int kind = 0; kind < 5 && !isWrong; kind++) {
            ask("kind", kind, 0, 1);
            ask("kind", kind, 1, 1);
        }
        for (int i = 0; i < 12 && !isWrong; i++) {
            ask("air", i, 1);
            ask("count", i);
            ask("trace", i);
            ask("told", i);
        }
    }
}
