import java.util.ArrayList;
import java.util.HashMap;
import java.util.List;
import java.util.Map;
import java.util.PriorityQueue;
import java.util.function.IntSupplier;

/**
 * The document read a second time, by other means than those of the class: walkers are Java's own subclasses,
 * sheets are Java's own arrays, refusals are thrown, clicks that are only thought of are made in a copy. It is
 * slow, and it makes objects as it likes.
 */
final class SecondStreet {
    private static final int BEYOND = 1;
    private static final int NONE = 2;
    private static final int STATE = 3;
    private static final int FULL = 4;
    private static final int KIND = 5;
    private static final int PARTED = 6;

    private State state = new State();
    private State image = null;
    private int images = 0;
    private final Object[] sheets = new Object[4];
    private List<Integer> trace = new ArrayList<>();
    private final int[] told = new int[7];

    @SuppressWarnings("serial")
    private static final class Refused extends RuntimeException {
        final int k;

        Refused(int k) {
            this.k = k;
        }
    }

    @SuppressWarnings("serial")
    private static final class Fault extends RuntimeException {
        final int place;

        Fault(int place) {
            this.place = place;
        }
    }

    private int act(IntSupplier work) {
        try {
            return work.getAsInt();
        } catch (Refused refused) {
            told[refused.k]++;
            return -1000000 - refused.k;
        }
    }

    private static void need(boolean is, int k) {
        if (!is) {
            throw new Refused(k);
        }
    }

    private static boolean in(int v, int least, int most) {
        return least <= v && v <= most;
    }

    private static int beside(int cell, int side, int yards) {
        int x = cell % 16;
        int y = cell / 16;
        switch (side) {
            case 0: y -= yards; break;
            case 1: x += yards; y -= yards; break;
            case 2: x += yards; break;
            case 3: x += yards; y += yards; break;
            case 4: y += yards; break;
            case 5: x -= yards; y += yards; break;
            case 6: x -= yards; break;
            default: x -= yards; y -= yards; break;
        }
        return in(x, 0, 15) && in(y, 0, 11) ? 16 * y + x : -1;
    }

    // ---- what there is

    private static final class Thing {
        int kind;
        int cell;
        int side;
        int step;

        Thing(int kind, int cell, int side, int step) {
            this.kind = kind;
            this.cell = cell;
            this.side = side;
            this.step = step;
        }
    }

    private record Lesson(int tells, int needs, int minutes) {
    }

    private record Echo(int cell, int yards, int late, int strength, boolean heard) {
    }

    private interface Part {
        int of(Map<Character, Integer> values);
    }

    private record Text(Part part, int parts) {
    }

    private static class Walker implements Cloneable {
        int n;
        int cell;
        int side;
        int pitch = 5;
        int loudness = 60;
        int every = 0;
        boolean goes = false;
        int bumps = 0;
        int clicks = 0;
        int[] yes = new int[192];
        int[] no = new int[192];
        List<Integer> begun = new ArrayList<>();

        Walker copy() {
            try {
                Walker other = (Walker) clone();
                other.yes = yes.clone();
                other.no = no.clone();
                other.begun = new ArrayList<>();
                return other;
            } catch (CloneNotSupportedException never) {
                throw new IllegalStateException(never);
            }
        }

        int held(int where) {
            return Integer.compare(yes[where], no[where]) == 0 ? 0 : yes[where] > no[where] ? 2 : 1;
        }

        int reach() {
            return 3;
        }

        int speed() {
            return 1;
        }

        int ears() {
            return 9;
        }

        int sounds(int x) {
            begun.add(10);
            return x + pitch;
        }

        int hears(int x) {
            begun.add(11);
            return sounds(x) * 2;
        }

        int knows(int x) {
            begun.add(12);
            return hears(x) - n;
        }

        int tells(int x) {
            begun.add(13);
            need(n != 3, PARTED);
            return x / (n - 3);
        }
    }

    private static class Clicking extends Walker {
        @Override
        int reach() {
            return 4 * super.reach();
        }

        @Override
        int sounds(int x) {
            begun.add(20);
            return super.sounds(x) * 3;
        }

        @Override
        int tells(int x) {
            begun.add(21);
            return super.tells(x) + knows(1);
        }
    }

    private static final class Tapping extends Walker {
        @Override
        int reach() {
            return 1;
        }

        @Override
        int hears(int x) {
            begun.add(30);
            return super.hears(x) ^ pitch;
        }
    }

    private static class Listening extends Walker {
        @Override
        int reach() {
            return 2 * super.reach();
        }

        @Override
        int sounds(int x) {
            begun.add(40);
            return 0 - super.sounds(x);
        }

        @Override
        int knows(int x) {
            begun.add(41);
            return super.knows(x) + 5;
        }
    }

    private static final class Led extends Walker {
        @Override
        int reach() {
            return 0;
        }

        @Override
        int knows(int x) {
            begun.add(50);
            return super.knows(x - 1);
        }
    }

    private static final class New extends Clicking {
        @Override
        int reach() {
            return super.reach() / 2;
        }

        @Override
        int hears(int x) {
            begun.add(60);
            return super.hears(x + 2);
        }
    }

    private static final class Old extends Listening {
        @Override
        int reach() {
            return super.reach() - 1;
        }

        @Override
        int ears() {
            return super.ears() - 4;
        }

        @Override
        int hears(int x) {
            begun.add(70);
            return super.hears(x) / 2;
        }

        @Override
        int knows(int x) {
            begun.add(71);
            return super.knows(x) - sounds(2);
        }
    }

    private static final class Riding extends Clicking {
        @Override
        int reach() {
            return super.reach() - 2;
        }

        @Override
        int speed() {
            return super.speed() + 1;
        }

        @Override
        int tells(int x) {
            begun.add(80);
            return super.tells(x) - hears(x);
        }
    }

    private static final List<Class<? extends Walker>> KINDS = List.of(Walker.class, Clicking.class, Tapping.class,
        Listening.class, Led.class, New.class, Old.class, Riding.class);

    private static Walker made(int kind) {
        switch (kind) {
            case 0: return new Walker();
            case 1: return new Clicking();
            case 2: return new Tapping();
            case 3: return new Listening();
            case 4: return new Led();
            case 5: return new New();
            case 6: return new Old();
            default: return new Riding();
        }
    }

    /** All that an image keeps. */
    private static final class State {
        int now = 0;
        int noise = 5;
        int mask = 9;
        int snow = 0;
        int[] loud = {50, 50, 50, 50, 50};
        int[] sharp = new int[5];
        List<Thing> things = new ArrayList<>();
        List<Walker> walkers = new ArrayList<>();
        List<Lesson> lessons = new ArrayList<>();
        List<Integer> waiting = new ArrayList<>();
        StringBuilder tape = new StringBuilder();
        Text[] texts = new Text[3];

        State copy() {
            State other = new State();
            other.now = now;
            other.noise = noise;
            other.mask = mask;
            other.snow = snow;
            other.loud = loud.clone();
            other.sharp = sharp.clone();
            for (Thing thing : things) {
                other.things.add(new Thing(thing.kind, thing.cell, thing.side, thing.step));
            }
            for (Walker walker : walkers) {
                other.walkers.add(walker.copy());
            }
            other.lessons.addAll(lessons);
            other.waiting.addAll(waiting);
            other.tape.append(tape);
            other.texts = texts.clone();
            return other;
        }

        int at(int cell) {
            for (int i = 0; i < walkers.size(); i++) {
                if (walkers.get(i).cell == cell) {
                    return 100 + i;
                }
            }
            for (int i = 0; i < things.size(); i++) {
                if (things.get(i).cell == cell) {
                    return i;
                }
            }
            return -1;
        }

        int work(int use, Map<Character, Integer> values) {
            return texts[use].part.of(values);
        }

        int strength(int kind, int pitch, int loudness, int yards) {
            if (sharp[kind] > pitch) {
                return 0;
            }
            int told = texts[0] == null
                ? loudness * loud[kind] / 50 - 2 * yards
                : work(0, Map.of('l', loudness, 'o', loud[kind], 'y', yards, 'p', pitch));
            if (told < 0) {
                told = 0;
            }
            if (told > 999) {
                told = 999;
            }
            return snow == 1 ? told / 2 : told;
        }

        boolean heard(Walker who, int pitch, int late, int strength) {
            boolean canBe = pitch <= who.ears() && late > mask && strength != 0;
            if (!canBe) {
                return false;
            }
            return texts[1] == null
                ? strength > noise
                : work(1, Map.of('s', strength, 'n', noise, 't', late)) != 0;
        }

        boolean heardKind(Walker who, int kind, int pitch, int loudness, int yards, int side) {
            return heard(who, pitch, yards * (side % 2 == 0 ? 6 : 8), strength(kind, pitch, loudness, yards));
        }

        Echo echo(Walker who, int pitch, int loudness, int side) {
            for (int yards = 1; yards <= who.reach(); yards++) {
                int cell = beside(who.cell, side, yards);
                int there = cell < 0 ? -1 : at(cell);
                if (there >= 0) {
                    int kind = there >= 100 ? 3 : things.get(there).kind;
                    int late = yards * (side % 2 == 0 ? 6 : 8);
                    int strength = strength(kind, pitch, loudness, yards);
                    return new Echo(cell, yards, late, strength, heard(who, pitch, late, strength));
                }
            }
            return null;
        }

        int click(Walker who) {
            who.clicks++;
            int count = 0;
            for (int side = 0; side < 8; side++) {
                Echo echo = echo(who, who.pitch, who.loudness, side);
                if (echo != null && echo.heard) {
                    count++;
                    who.yes[echo.cell] = Math.min(99, who.yes[echo.cell] + 1);
                    for (int yards = 1; yards < echo.yards; yards++) {
                        int nearer = beside(who.cell, side, yards);
                        who.no[nearer] = Math.min(99, who.no[nearer] + 1);
                    }
                }
            }
            return count;
        }

        int yardsToFull(Walker who, int side) {
            for (int yards = 1; yards <= 9; yards++) {
                int cell = beside(who.cell, side, yards);
                if (cell >= 0 && who.held(cell) == 2) {
                    return yards;
                }
            }
            return 0;
        }

        void tenth() {
            now++;
            for (Thing thing : things) {
                if (thing.cell >= 0 && thing.step != 0 && now % thing.step == 0) {
                    int next = beside(thing.cell, thing.side, 1);
                    if (next >= 0 && at(next) < 0) {
                        thing.cell = next;
                    } else {
                        thing.side = (thing.side + 4) % 8;
                    }
                }
            }
            for (Walker who : walkers) {
                if (who.goes) {
                    if (who.every != 0 && now % who.every == 0 && who instanceof Clicking) {
                        click(who);
                    }
                    goByHabit(who);
                }
            }
        }

        void goByHabit(Walker who) {
            int f = yardsToFull(who, who.side);
            int l = yardsToFull(who, (who.side + 6) % 8);
            int r = yardsToFull(who, (who.side + 2) % 8);
            int told = texts[2] == null
                ? f == 0 || f > 1 ? 0 : 1
                : work(2, Map.of('f', f, 'l', l, 'r', r, 'b', who.bumps, 't', now));
            int rest = told & 3;
            if (rest != 0) {
                who.side = (who.side + (rest == 3 ? 6 : rest)) % 8;
                return;
            }
            for (int i = 0; i < who.speed(); i++) {
                int next = beside(who.cell, who.side, 1);
                if (next >= 0 && at(next) < 0) {
                    who.cell = next;
                } else {
                    who.bumps++;
                    if (next >= 0) {
                        who.yes[next] = Math.min(99, who.yes[next] + 3);
                    }
                    break;
                }
            }
        }
    }

    // ---- texts: signs of one rank are joined from the left, ranks bind the tighter the higher

    private static final class Reading {
        final String bytes;
        final String names;
        int at = 0;
        int open = 0;
        int parts = 0;

        Reading(String bytes, String names) {
            this.bytes = bytes;
            this.names = names;
        }

        char peek() {
            while (at < bytes.length() && bytes.charAt(at) == ' ') {
                at++;
            }
            if (at == bytes.length()) {
                return 0xFFFF;
            }
            return bytes.charAt(at);
        }

        void take(char sign) {
            if (peek() != sign) {
                throw new Fault(at);
            }
            at++;
        }

        void goIn() {
            if (open == 5) {
                throw new Fault(at);
            }
            open++;
            at++;
        }

        static int rankOf(char sign) {
            return "<=>".indexOf(sign) >= 0 ? 1 : "+-".indexOf(sign) >= 0 ? 2 : "*/%".indexOf(sign) >= 0 ? 3 : 0;
        }

        Part whole() {
            Part part = joined(1);
            if (peek() != 0xFFFF) {
                throw new Fault(at);
            }
            return part;
        }

        Part joined(int least) {
            Part left = one();
            while (rankOf(peek()) >= least) {
                char sign = peek();
                at++;
                Part a = left;
                Part b = joined(rankOf(sign) + 1);
                left = values -> join(sign, a.of(values), b.of(values));
            }
            return left;
        }

        static int join(char sign, int a, int b) {
            switch (sign) {
                case '<': return a < b ? 1 : 0;
                case '=': return a == b ? 1 : 0;
                case '>': return a > b ? 1 : 0;
                case '+': return a + b;
                case '-': return a - b;
                case '*': return a * b;
                case '/': return b == 0 ? 0 : a / b;
                default: return b == 0 ? 0 : a % b;
            }
        }

        Part one() {
            char sign = peek();
            if (in(sign, '0', '9')) {
                int end = at;
                while (end < bytes.length() && end < at + 3 && in(bytes.charAt(end), '0', '9')) {
                    end++;
                }
                int number = Integer.parseInt(bytes.substring(at, end));
                at = end;
                parts++;
                return values -> number;
            }
            if (names.indexOf(sign) >= 0) {
                at++;
                parts++;
                return values -> values.get(sign);
            }
            if (sign == '-') {
                goIn();
                Part part = one();
                open--;
                return values -> -part.of(values);
            }
            if (sign == '(') {
                goIn();
                Part part = joined(1);
                take(')');
                open--;
                return part;
            }
            if (sign == '[') {
                goIn();
                Part first = joined(1);
                take('?');
                Part second = joined(1);
                take(':');
                Part third = joined(1);
                take(']');
                open--;
                return values -> first.of(values) != 0 ? second.of(values) : third.of(values);
            }
            throw new Fault(at);
        }
    }

    /** The same state, to ask of it without being told of. */
    SecondStreet view() {
        SecondStreet other = new SecondStreet();
        other.state = state;
        return other;
    }

    /** A copy of the state, to try what would be. */
    SecondStreet thought() {
        SecondStreet other = new SecondStreet();
        other.state = state.copy();
        return other;
    }

    // ---- the street

    int thing(int kind, int cell) {
        return act(() -> {
            need(in(kind, 0, 4) && in(cell, 0, 191), BEYOND);
            need(state.at(cell) < 0, STATE);
            need(state.things.size() < 40, FULL);
            state.things.add(new Thing(kind, cell, 0, 0));
            return state.things.size() - 1;
        });
    }

    private Thing someThing(int thing) {
        need(in(thing, 0, state.things.size() - 1), BEYOND);
        return state.things.get(thing);
    }

    int thingIs(int thing, int what) {
        return act(() -> {
            Thing it = someThing(thing);
            need(in(what, 0, 3), BEYOND);
            return new int[] {it.kind, it.cell, it.side, it.step}[what];
        });
    }

    int moves(int thing, int side, int step) {
        return act(() -> {
            Thing it = someThing(thing);
            need(in(side, 0, 7) && in(step, 0, 20), BEYOND);
            need(it.kind == 3 || it.kind == 4, KIND);
            need(it.cell != -1, STATE);
            it.side = side;
            it.step = step;
            return 1;
        });
    }

    int away(int thing) {
        return act(() -> {
            Thing it = someThing(thing);
            need(it.cell != -1, STATE);
            int was = it.cell;
            it.cell = -1;
            return was;
        });
    }

    int kind(int kind, int what, int v) {
        return act(() -> {
            need(in(kind, 0, 4) && in(what, 0, 1) && in(v, 0, what == 0 ? 99 : 9), BEYOND);
            int[] row = what == 0 ? state.loud : state.sharp;
            int was = row[kind];
            row[kind] = v;
            return was;
        });
    }

    int at(int cell) {
        return act(() -> {
            need(in(cell, 0, 191), BEYOND);
            return state.at(cell);
        });
    }

    int lays(int sheet, int y) {
        return act(() -> {
            need(in(sheet, 0, 3) && in(y, 0, 11), BEYOND);
            need(sheets[sheet] != null, NONE);
            need(sheets[sheet] instanceof byte[], KIND);
            byte[] row = (byte[]) sheets[sheet];
            need(row.length <= 16, STATE);
            int came = 0;
            for (int x = 0; x < row.length; x++) {
                if (in(row[x], 1, 5) && state.at(16 * y + x) < 0 && state.things.size() < 40) {
                    state.things.add(new Thing(row[x] - 1, 16 * y + x, 0, 0));
                    came++;
                }
            }
            return came;
        });
    }

    int air(int what, int v) {
        return act(() -> {
            need(in(what, 0, 2) && in(v, 0, new int[] {99, 90, 1}[what]), BEYOND);
            int was = what == 0 ? state.noise : what == 1 ? state.mask : state.snow;
            switch (what) {
                case 0: state.noise = v; break;
                case 1: state.mask = v; break;
                default: state.snow = v; break;
            }
            return was;
        });
    }

    // ---- walkers

    int walker(int kind, int cell, int side) {
        return act(() -> {
            need(in(kind, 0, 7) && in(cell, 0, 191) && in(side, 0, 7), BEYOND);
            need(state.at(cell) < 0, STATE);
            need(state.walkers.size() < 8, FULL);
            Walker who = made(kind);
            who.n = state.walkers.size();
            who.cell = cell;
            who.side = side;
            state.walkers.add(who);
            return who.n;
        });
    }

    private Walker someWalker(int walker) {
        need(in(walker, 0, state.walkers.size() - 1), BEYOND);
        return state.walkers.get(walker);
    }

    int walkerIs(int walker, int what) {
        return act(() -> {
            Walker who = someWalker(walker);
            need(in(what, 0, 11), BEYOND);
            return new int[] {KINDS.indexOf(who.getClass()), who.cell, who.side, who.pitch, who.loudness, who.every,
                who.goes ? 1 : 0, who.bumps, who.clicks, who.reach(), who.speed(), who.ears()}[what];
        });
    }

    int as(int walker, int kind) {
        return act(() -> {
            Walker who = someWalker(walker);
            need(in(kind, 0, 7), BEYOND);
            need(KINDS.get(kind).isInstance(who), KIND);
            return who.reach();
        });
    }

    int habit(int walker, int pitch, int loudness, int every) {
        return act(() -> {
            Walker who = someWalker(walker);
            need(in(pitch, 1, 9) && in(loudness, 1, 99) && in(every, 0, 30), BEYOND);
            who.pitch = pitch;
            who.loudness = loudness;
            who.every = every;
            return 1;
        });
    }

    int face(int walker, int side) {
        return act(() -> {
            Walker who = someWalker(walker);
            need(in(side, 0, 7), BEYOND);
            int was = who.side;
            who.side = side;
            return was;
        });
    }

    int goes(int walker, boolean is) {
        return act(() -> {
            Walker who = someWalker(walker);
            int was = who.goes ? 1 : 0;
            who.goes = is;
            return was;
        });
    }

    // ---- texts, sounds

    int feed(long word, int n) {
        return act(() -> {
            need(in(n, 1, 8), BEYOND);
            need(state.tape.length() + n <= 48, FULL);
            long rest = word;
            for (int i = 0; i < n; i++) {
                state.tape.append((char) (rest & 0xFF));
                rest >>= 8;
            }
            return state.tape.length();
        });
    }

    int text(int use) {
        return act(() -> {
            need(in(use, 0, 2), BEYOND);
            Reading reading = new Reading(state.tape.toString(), new String[] {"loyp", "snt", "flrbt"}[use]);
            state.tape.setLength(0);
            try {
                Part part = reading.whole();
                state.texts[use] = new Text(part, reading.parts);
                return reading.parts;
            } catch (Fault fault) {
                return -10 - fault.place;
            }
        });
    }

    /** PITCH and LOUDNESS of a click that is told as one number. */
    private static int[] clickOf(int click) {
        for (int pitch = 1; pitch <= 9; pitch++) {
            if (in(click, 100 * pitch + 1, 100 * pitch + 99)) {
                return new int[] {pitch, click - 100 * pitch};
            }
        }
        throw new Refused(BEYOND);
    }

    int echo(int walker, int click, int side, int what) {
        return act(() -> {
            Walker who = someWalker(walker);
            int[] told = clickOf(click);
            need(in(side, 0, 7) && in(what, 0, 5), BEYOND);
            Echo echo = state.echo(who, told[0], told[1], side);
            need(echo != null, NONE);
            int left = echo.strength;
            int right = echo.strength;
            for (int i = 1; i <= 3; i++) {
                if ((who.side + i) % 8 == side) {
                    left /= 2;
                }
                if ((who.side - i + 8) % 8 == side) {
                    right /= 2;
                }
            }
            return new int[] {echo.yards, echo.late, echo.strength, left, right, echo.heard ? 1 : 0}[what];
        });
    }

    int click(int walker) {
        return act(() -> {
            Walker who = someWalker(walker);
            need(who instanceof Clicking, KIND);
            return state.click(who);
        });
    }

    int head(int walker, int cell, int what) {
        return act(() -> {
            Walker who = someWalker(walker);
            need(in(cell, 0, 191) && in(what, 0, 2), BEYOND);
            return new int[] {who.yes[cell], who.no[cell], who.held(cell)}[what];
        });
    }

    int heads(int walker, int what) {
        return act(() -> {
            Walker who = someWalker(walker);
            need(in(what, 0, 3), BEYOND);
            int[] count = new int[4];
            for (int cell = 0; cell < 192; cell++) {
                int held = who.held(cell);
                count[held]++;
                boolean isFull = state.at(cell) >= 0 && cell != who.cell;
                if (held == 1 && isFull || held == 2 && !isFull) {
                    count[3]++;
                }
            }
            return count[what];
        });
    }

    int alike(int walker, int click, int yards, int side, int strength) {
        return act(() -> {
            Walker who = someWalker(walker);
            int[] told = clickOf(click);
            need(in(yards, 1, who.reach()) && in(side, 0, 7) && in(strength, 0, 999), BEYOND);
            int bits = 0;
            for (int kind = 4; kind >= 0; kind--) {
                boolean is = state.strength(kind, told[0], told[1], yards) == strength
                    && state.heardKind(who, kind, told[0], told[1], yards, side);
                bits = 2 * bits + (is ? 1 : 0);
            }
            return bits;
        });
    }

    int least(int walker, int kind, int yards, int what) {
        return act(() -> {
            Walker who = someWalker(walker);
            need(in(kind, 0, 4) && in(yards, 1, 15) && in(what, 0, 1), BEYOND);
            need(yards <= who.reach(), NONE);
            int least = 0;
            for (int v = what == 0 ? 9 : 99; v >= 1; v--) {
                int pitch = what == 0 ? v : Math.min(9, who.ears());
                if (state.heardKind(who, kind, pitch, what == 0 ? 99 : v, yards, 0)) {
                    least = v;
                }
            }
            need(least > 0, NONE);
            return least;
        });
    }

    int farthest(int walker, int kind, int click) {
        return act(() -> {
            Walker who = someWalker(walker);
            need(in(kind, 0, 4), BEYOND);
            int[] told = clickOf(click);
            int farthest = 0;
            for (int yards = 1; yards <= who.reach(); yards++) {
                if (state.heardKind(who, kind, told[0], told[1], yards, 0)) {
                    farthest = yards;
                }
            }
            need(farthest > 0, NONE);
            return farthest;
        });
    }

    private List<Integer> numbersOf(int sheet) {
        List<Integer> numbers = new ArrayList<>();
        Object row = sheets[sheet];
        if (row instanceof byte[] bytes) {
            for (byte v : bytes) {
                numbers.add((int) v);
            }
        } else if (row instanceof short[] shorts) {
            for (short v : shorts) {
                numbers.add((int) v);
            }
        } else if (row instanceof int[] ints) {
            for (int v : ints) {
                numbers.add(v);
            }
        }
        return numbers;
    }

    private List<Integer> someCells(int sheet) {
        List<Integer> cells = numbersOf(sheet);
        need(in(cells.size(), 1, 8), KIND);
        for (int cell : cells) {
            need(in(cell, 0, 191), KIND);
        }
        return cells;
    }

    int spots(int walker, int sheet, int k, int what) {
        return act(() -> {
            Walker who = someWalker(walker);
            need(in(sheet, 0, 3) && in(k, 1, 3) && in(what, 0, 1), BEYOND);
            need(sheets[sheet] != null, NONE);
            List<Integer> cells = someCells(sheet);
            need(cells.stream().distinct().count() == cells.size(), KIND);
            int best = -1;
            int bestBits = 0;
            for (int bits = 0; bits < 1 << cells.size(); bits++) {
                if (Integer.bitCount(bits) != k) {
                    continue;
                }
                boolean[] known = new boolean[192];
                boolean free = true;
                for (int i = 0; i < cells.size(); i++) {
                    if ((bits >> i & 1) == 1) {
                        free &= state.at(cells.get(i)) < 0;
                        addKnown(known, walker, cells.get(i));
                    }
                }
                int count = 0;
                for (int cell = 0; cell < 192; cell++) {
                    count += known[cell] && who.held(cell) == 0 ? 1 : 0;
                }
                if (free && count > best) {
                    best = count;
                    bestBits = bits;
                }
            }
            need(best >= 0, STATE);
            return what == 0 ? best : bestBits;
        });
    }

    private void addKnown(boolean[] known, int walker, int cell) {
        State thought = state.copy();
        Walker who = thought.walkers.get(walker);
        who.cell = cell;
        thought.click(who);
        for (int i = 0; i < 192; i++) {
            known[i] |= who.held(i) != 0;
        }
    }

    // ---- walks

    int tenths(int n) {
        return act(() -> {
            need(in(n, 1, 100), BEYOND);
            need(state.now + n <= 9999, STATE);
            for (int i = 0; i < n; i++) {
                state.tenth();
            }
            return state.now;
        });
    }

    private record Way(int cell, int cost, String sides) {
    }

    int way(int walker, int cell, int what) {
        return act(() -> {
            Walker who = someWalker(walker);
            need(in(cell, 0, 191) && what >= -1, BEYOND);
            PriorityQueue<Way> open = new PriorityQueue<>((a, b) ->
                a.cost != b.cost ? Integer.compare(a.cost, b.cost) : a.sides.compareTo(b.sides));
            Map<Integer, Way> done = new HashMap<>();
            open.add(new Way(who.cell, 0, ""));
            while (!done.containsKey(cell)) {
                Way way = open.remove();
                if (done.putIfAbsent(way.cell, way) == null) {
                    for (int side = 0; side < 8; side += 2) {
                        int next = beside(way.cell, side, 1);
                        if (next >= 0 && !done.containsKey(next)) {
                            int cost = new int[] {3, 1, 20}[who.held(next)];
                            open.add(new Way(next, way.cost + cost, way.sides + side));
                        }
                    }
                }
            }
            Way way = done.get(cell);
            if (what == -1) {
                return way.cost;
            }
            need(what <= way.sides.length(), NONE);
            int at = who.cell;
            for (int i = 0; i < what; i++) {
                at = beside(at, way.sides.charAt(i) - '0', 1);
            }
            return at;
        });
    }

    int safe(int walker) {
        return act(() -> {
            Walker who = someWalker(walker);
            Echo echo = state.echo(who, who.pitch, who.loudness, who.side);
            int yards = 0;
            if (echo != null && echo.heard) {
                yards = echo.yards - 1;
            } else {
                int next = beside(who.cell, who.side, 1);
                while (next >= 0 && yards < 15 && who.held(next) == 1) {
                    yards++;
                    next = beside(next, who.side, 1);
                }
            }
            int v = 9;
            while (v * (v + 1) / 2 > yards) {
                v--;
            }
            return v;
        });
    }

    // ---- lessons, posts

    int lesson(int tells, int needs, int minutes) {
        return act(() -> {
            need(in(tells, 0, 31) && in(needs, 0, 31) && in(minutes, 1, 99), BEYOND);
            need(state.lessons.size() < 7, FULL);
            state.lessons.add(new Lesson(tells, needs, minutes));
            return state.lessons.size() - 1;
        });
    }

    int learn(int known, int wanted, int what) {
        return act(() -> {
            need(in(known, 0, 31) && in(wanted, 0, 31) && what >= -2, BEYOND);
            List<List<Integer>> rows = new ArrayList<>();
            addRows(rows, new ArrayList<>(), known, wanted);
            List<Integer> best = null;
            for (List<Integer> row : rows) {
                if (best == null || isBetter(row, best)) {
                    best = row;
                }
            }
            need(best != null, NONE);
            if (what < 0) {
                return what == -1 ? minutesOf(best) : best.size();
            }
            need(what < best.size(), NONE);
            return best.get(what);
        });
    }

    private int minutesOf(List<Integer> row) {
        int sum = 0;
        for (int lesson : row) {
            sum += state.lessons.get(lesson).minutes;
        }
        return sum;
    }

    private boolean isBetter(List<Integer> row, List<Integer> best) {
        if (minutesOf(row) != minutesOf(best)) {
            return minutesOf(row) < minutesOf(best);
        }
        if (row.size() != best.size()) {
            return row.size() < best.size();
        }
        return row.toString().compareTo(best.toString()) < 0;
    }

    private void addRows(List<List<Integer>> rows, List<Integer> row, int known, int wanted) {
        if ((known & wanted) == wanted) {
            rows.add(new ArrayList<>(row));
            return;
        }
        for (int i = state.lessons.size() - 1; i >= 0; i--) {
            Lesson lesson = state.lessons.get(i);
            if (!row.contains(i) && (known & lesson.needs) == lesson.needs) {
                row.add(i);
                addRows(rows, row, known | lesson.tells, wanted);
                row.remove(row.size() - 1);
            }
        }
    }

    int posts(int walker, int sheet, int other, int what) {
        return act(() -> {
            someWalker(walker);
            need(in(sheet, 0, 3) && in(other, 0, 3) && in(what, 0, 1), BEYOND);
            need(sheets[sheet] != null && sheets[other] != null, NONE);
            List<Integer> posts = someCells(sheet);
            List<Integer> cells = someCells(other);
            boolean[][] heard = new boolean[cells.size()][posts.size()];
            for (int j = 0; j < cells.size(); j++) {
                for (int i = 0; i < posts.size(); i++) {
                    heard[j][i] = hearsPost(walker, cells.get(j), posts.get(i));
                }
            }
            for (int count = 1; count <= posts.size(); count++) {
                for (int bits = 0; bits < 1 << posts.size(); bits++) {
                    if (Integer.bitCount(bits) == count && serves(heard, bits)) {
                        return what == 0 ? count : bits;
                    }
                }
            }
            throw new Refused(STATE);
        });
    }

    private static boolean serves(boolean[][] heard, int bits) {
        for (boolean[] row : heard) {
            boolean is = false;
            for (int i = 0; i < row.length; i++) {
                is |= row[i] && (bits >> i & 1) == 1;
            }
            if (!is) {
                return false;
            }
        }
        return true;
    }

    /** Puts a POLE in a copy, and the walker where it would be. */
    private boolean hearsPost(int walker, int from, int post) {
        State thought = state.copy();
        Walker who = thought.walkers.get(walker);
        who.cell = -1;
        if (thought.at(post) >= 0) {
            return false;
        }
        thought.things.add(new Thing(1, post, 0, 0));
        who.cell = from;
        for (int side = 0; side < 8; side++) {
            Echo echo = thought.echo(who, who.pitch, who.loudness, side);
            if (echo != null && echo.cell == post && echo.heard) {
                return true;
            }
        }
        return false;
    }

    // ---- voices, sheets, images, what is told

    int voice(int walker, int act, int x) {
        return act(() -> {
            Walker who = someWalker(walker);
            need(in(act, 0, 3), BEYOND);
            who.begun = new ArrayList<>();
            int said = act == 0 ? who.sounds(x) : act == 1 ? who.hears(x) : act == 2 ? who.knows(x) : who.tells(x);
            trace = who.begun.subList(0, Math.min(30, who.begun.size()));
            return said;
        });
    }

    int trace(int i) {
        return act(() -> {
            need(in(i, 0, trace.size() - 1), NONE);
            return trace.get(i);
        });
    }

    int sheet(int sheet, int bits, int n) {
        return act(() -> {
            need(in(sheet, 0, 3) && List.of(0, 8, 16, 32).contains(bits), BEYOND);
            need(bits == 0 || n >= 0, STATE);
            need(bits == 0 || n <= 24, BEYOND);
            sheets[sheet] = bits == 0 ? null : bits == 8 ? new byte[n] : bits == 16 ? new short[n] : new int[n];
            return 1;
        });
    }

    int put(int sheet, int i, int v) {
        return act(() -> {
            need(in(sheet, 0, 3), BEYOND);
            need(sheets[sheet] != null, NONE);
            need(in(i, 0, numbersOf(sheet).size() - 1), BEYOND);
            if (sheets[sheet] instanceof byte[] bytes) {
                bytes[i] = (byte) v;
            } else if (sheets[sheet] instanceof short[] shorts) {
                shorts[i] = (short) v;
            } else if (sheets[sheet] instanceof int[] ints) {
                ints[i] = v;
            }
            return 1;
        });
    }

    int move(int sheet, int i, int other, int j, int n) {
        return act(() -> {
            need(in(sheet, 0, 3) && in(other, 0, 3), BEYOND);
            need(sheets[sheet] != null && sheets[other] != null, NONE);
            need(sheets[sheet].getClass() == sheets[other].getClass(), KIND);
            long room = Math.min(numbersOf(sheet).size() - (long) i, numbersOf(other).size() - (long) j);
            need(i >= 0 && j >= 0 && n >= 0 && n <= room, BEYOND);
            System.arraycopy(sheets[sheet], i, sheets[other], j, n);
            return n;
        });
    }

    int image() {
        image = state.copy();
        return ++images;
    }

    int restore() {
        return act(() -> {
            need(image != null, NONE);
            state = image.copy();
            return state.now;
        });
    }

    int tell(int v) {
        return act(() -> {
            need(state.waiting.size() < 24, FULL);
            state.waiting.add(v);
            return state.waiting.size();
        });
    }

    int check(int walker) {
        return act(() -> {
            List<Integer> waiting = state.waiting;
            state.waiting = new ArrayList<>();
            someWalker(walker);
            State thought = state.copy();
            for (int i = 0; i < waiting.size(); i++) {
                thought.tenth();
                if (thought.walkers.get(walker).cell != waiting.get(i)) {
                    return 1 + i;
                }
            }
            return 0;
        });
    }

    int count(int what) {
        return act(() -> {
            need(in(what, 0, 8), BEYOND);
            int there = 0;
            for (Thing thing : state.things) {
                there += thing.cell >= 0 ? 1 : 0;
            }
            int bumps = 0;
            int clicks = 0;
            for (Walker who : state.walkers) {
                bumps += who.bumps;
                clicks += who.clicks;
            }
            return new int[] {state.now, there, state.walkers.size(), state.lessons.size(), state.tape.length(),
                state.waiting.size(), trace.size(), bumps, clicks}[what];
        });
    }

    int told(int k) {
        return act(() -> {
            need(in(k, 1, 6), BEYOND);
            return told[k];
        });
    }
}
