/**
 * Clicks in the dark: a street of cells with things that give back clicks, and walkers who click,
 * listen, keep in their heads what was heard, and go about by habits.
 */
public final class ClickStreet {
    private static final int LOW = -1000000;
    private static final int BEYOND = 1;
    private static final int NONE = 2;
    private static final int STATE = 3;
    private static final int FULL = 4;
    private static final int KIND = 5;
    private static final int PARTED = 6;

    private static final int SHEETS = 4;
    private static final int LAST_TENTH = 9999;

    private final World live = new World();
    private final World kept = new World();
    private final World trial = new World();
    private final Sheet[] sheets = new Sheet[SHEETS];
    private final int[] errors = new int[PARTED + 1];
    private final Reader reader = new Reader();
    private final Finder finder = new Finder();
    private final Voices voices = new Voices();
    private int images = 0;

    public ClickStreet() {
        for (int i = 0; i < SHEETS; i++) {
            sheets[i] = new Sheet();
        }
    }

    // ---- the street

    public int thing(int kind, int cell) {
        if (!isThingKind(kind) || !Street.isCell(cell)) {
            return error(BEYOND);
        }
        if (!live.street.isFree(cell)) {
            return error(STATE);
        }
        if (!live.street.hasRoom()) {
            return error(FULL);
        }
        return live.street.addThing(kind, cell);
    }

    public int thingIs(int thing, int what) {
        if (!live.street.hasThing(thing) || !within(what, 0, 3)) {
            return error(BEYOND);
        }
        return live.street.factOf(thing, what);
    }

    public int moves(int thing, int side, int step) {
        Street street = live.street;
        if (!street.hasThing(thing) || !Street.isSide(side) || !within(step, 0, 20)) {
            return error(BEYOND);
        }
        if (street.kinds[thing] < Street.MAN) {
            return error(KIND);
        }
        if (street.cells[thing] < 0) {
            return error(STATE);
        }
        street.sides[thing] = side;
        street.steps[thing] = step;
        return 1;
    }

    public int away(int thing) {
        if (!live.street.hasThing(thing)) {
            return error(BEYOND);
        }
        if (live.street.cells[thing] < 0) {
            return error(STATE);
        }
        return live.street.takeAway(thing);
    }

    public int kind(int kind, int what, int v) {
        if (!isThingKind(kind) || !within(what, 0, 1) || !within(v, 0, what == 0 ? 99 : 9)) {
            return error(BEYOND);
        }
        return live.laws.changeKind(kind, what, v);
    }

    public int at(int cell) {
        if (!Street.isCell(cell)) {
            return error(BEYOND);
        }
        return live.street.occupants[cell];
    }

    public int lays(int sheet, int y) {
        if (!isSheet(sheet) || !within(y, 0, Street.ROWS - 1)) {
            return error(BEYOND);
        }
        Sheet laid = sheets[sheet];
        if (laid.isMissing()) {
            return error(NONE);
        }
        if (laid.bits != 8) {
            return error(KIND);
        }
        if (laid.size > Street.WIDTH) {
            return error(STATE);
        }
        int came = 0;
        for (int x = 0; x < laid.size; x++) {
            int kind = laid.numberAt(x) - 1;
            int cell = Street.WIDTH * y + x;
            if (isThingKind(kind) && live.street.isFree(cell) && live.street.hasRoom()) {
                live.street.addThing(kind, cell);
                came++;
            }
        }
        return came;
    }

    public int air(int what, int v) {
        if (!within(what, 0, 2) || !within(v, 0, what == 0 ? 99 : what == 1 ? 90 : 1)) {
            return error(BEYOND);
        }
        return live.laws.changeAir(what, v);
    }

    // ---- walkers

    public int walker(int kind, int cell, int side) {
        if (!isWalkerKind(kind) || !Street.isCell(cell) || !Street.isSide(side)) {
            return error(BEYOND);
        }
        if (!live.street.isFree(cell)) {
            return error(STATE);
        }
        if (live.walkerCount >= World.WALKERS) {
            return error(FULL);
        }
        return live.addWalker(kind, cell, side);
    }

    public int walkerIs(int walker, int what) {
        if (!live.hasWalker(walker) || !within(what, 0, 11)) {
            return error(BEYOND);
        }
        return live.walkers[walker].factOf(what);
    }

    public int as(int walker, int kind) {
        if (!live.hasWalker(walker) || !isWalkerKind(kind)) {
            return error(BEYOND);
        }
        if (!live.walkers[walker].isOf(kind)) {
            return error(KIND);
        }
        return live.walkers[walker].reach();
    }

    public int habit(int walker, int pitch, int loudness, int every) {
        if (!live.hasWalker(walker) || !Laws.isClick(pitch, loudness) || !within(every, 0, 30)) {
            return error(BEYOND);
        }
        Walker who = live.walkers[walker];
        who.pitch = pitch;
        who.loudness = loudness;
        who.every = every;
        return 1;
    }

    public int face(int walker, int side) {
        if (!live.hasWalker(walker) || !Street.isSide(side)) {
            return error(BEYOND);
        }
        int was = live.walkers[walker].side;
        live.walkers[walker].side = side;
        return was;
    }

    public int goes(int walker, boolean is) {
        if (!live.hasWalker(walker)) {
            return error(BEYOND);
        }
        boolean was = live.walkers[walker].isGoing;
        live.walkers[walker].isGoing = is;
        return was ? 1 : 0;
    }

    // ---- texts, sounds

    public int feed(long word, int n) {
        if (!within(n, 1, 8)) {
            return error(BEYOND);
        }
        if (live.tape.room() < n) {
            return error(FULL);
        }
        for (int i = 0; i < n; i++) {
            live.tape.add((int) (word >>> (8 * i)) & 255);
        }
        return live.tape.size;
    }

    public int text(int use) {
        if (!within(use, 0, Laws.USES - 1)) {
            return error(BEYOND);
        }
        int answer = reader.read(live.tape, use);
        if (answer >= 0) {
            live.laws.texts[use].takeFrom(reader.draft);
        }
        live.tape.clear();
        return answer;
    }

    public int echo(int walker, int click, int side, int what) {
        if (!live.hasWalker(walker) || !Laws.isClick(click) || !Street.isSide(side) || !within(what, 0, 5)) {
            return error(BEYOND);
        }
        if (live.echoYards(walker, live.walkers[walker].cell, side) == 0) {
            return error(NONE);
        }
        return live.echoFact(walker, click, side, what);
    }

    public int click(int walker) {
        if (!live.hasWalker(walker)) {
            return error(BEYOND);
        }
        if (!live.walkers[walker].isOf(Walker.CLICKING)) {
            return error(KIND);
        }
        return live.makeClick(walker);
    }

    public int head(int walker, int cell, int what) {
        if (!live.hasWalker(walker) || !Street.isCell(cell) || !within(what, 0, 2)) {
            return error(BEYOND);
        }
        Walker who = live.walkers[walker];
        return what == 0 ? who.yes[cell] : what == 1 ? who.no[cell] : who.held(cell);
    }

    public int heads(int walker, int what) {
        if (!live.hasWalker(walker) || !within(what, 0, 3)) {
            return error(BEYOND);
        }
        return what == 3 ? live.countWrong(walker) : live.walkers[walker].countHeld(what);
    }

    public int alike(int walker, int click, int yards, int side, int strength) {
        if (!live.hasWalker(walker) || !Laws.isClick(click) || !Street.isSide(side)) {
            return error(BEYOND);
        }
        Walker who = live.walkers[walker];
        if (!within(yards, 1, who.reach()) || !within(strength, 0, Laws.MOST_STRENGTH)) {
            return error(BEYOND);
        }
        return live.laws.kindsAlike(who.ears(), click, yards, side, strength);
    }

    public int least(int walker, int kind, int yards, int what) {
        if (!live.hasWalker(walker) || !isThingKind(kind) || !within(yards, 1, 15) || !within(what, 0, 1)) {
            return error(BEYOND);
        }
        Walker who = live.walkers[walker];
        if (yards > who.reach()) {
            return error(NONE);
        }
        int found = what == 0
            ? live.laws.leastPitch(who.ears(), kind, yards)
            : live.laws.leastLoudness(who.ears(), kind, yards);
        return found == 0 ? error(NONE) : found;
    }

    public int farthest(int walker, int kind, int click) {
        if (!live.hasWalker(walker) || !isThingKind(kind) || !Laws.isClick(click)) {
            return error(BEYOND);
        }
        Walker who = live.walkers[walker];
        for (int yards = who.reach(); yards >= 1; yards--) {
            if (live.laws.hears(who.ears(), kind, click, yards, 0)) {
                return yards;
            }
        }
        return error(NONE);
    }

    public int spots(int walker, int sheet, int k, int what) {
        if (!live.hasWalker(walker) || !isSheet(sheet) || !within(k, 1, 3) || !within(what, 0, 1)) {
            return error(BEYOND);
        }
        if (sheets[sheet].isMissing()) {
            return error(NONE);
        }
        if (!sheets[sheet].holdsFewCells() || sheets[sheet].hasTwoAlike()) {
            return error(KIND);
        }
        if (!finder.chooseSpots(live, walker, sheets[sheet], k)) {
            return error(STATE);
        }
        return what == 0 ? finder.most : finder.places;
    }

    // ---- walks

    public int tenths(int n) {
        if (!within(n, 1, 100)) {
            return error(BEYOND);
        }
        if (live.now + n > LAST_TENTH) {
            return error(STATE);
        }
        for (int i = 0; i < n; i++) {
            live.passTenth();
        }
        return live.now;
    }

    public int way(int walker, int cell, int what) {
        if (!live.hasWalker(walker) || !Street.isCell(cell) || what < -1) {
            return error(BEYOND);
        }
        Walker who = live.walkers[walker];
        finder.measure(who, cell);
        if (what == -1) {
            return finder.costFrom(who.cell);
        }
        int reached = finder.cellAfter(who, cell, what);
        return reached < 0 ? error(NONE) : reached;
    }

    public int safe(int walker) {
        if (!live.hasWalker(walker)) {
            return error(BEYOND);
        }
        int yards = live.sureYards(walker);
        int v = 0;
        while (v < 9 && (v + 1) * (v + 2) / 2 <= yards) {
            v++;
        }
        return v;
    }

    // ---- lessons, posts

    public int lesson(int tells, int needs, int minutes) {
        if (!isBits(tells) || !isBits(needs) || !within(minutes, 1, 99)) {
            return error(BEYOND);
        }
        if (!live.lessons.hasRoom()) {
            return error(FULL);
        }
        return live.lessons.add(tells, needs, minutes);
    }

    public int learn(int known, int wanted, int what) {
        if (!isBits(known) || !isBits(wanted) || what < -2) {
            return error(BEYOND);
        }
        Lessons lessons = live.lessons;
        if (!lessons.findRow(known, wanted)) {
            return error(NONE);
        }
        if (what == -1) {
            return lessons.fewestMinutes;
        }
        if (what == -2) {
            return lessons.best.size;
        }
        return what < lessons.best.size ? lessons.best.get(what) : error(NONE);
    }

    public int posts(int walker, int sheet, int other, int what) {
        if (!live.hasWalker(walker) || !isSheet(sheet) || !isSheet(other) || !within(what, 0, 1)) {
            return error(BEYOND);
        }
        if (sheets[sheet].isMissing() || sheets[other].isMissing()) {
            return error(NONE);
        }
        if (!sheets[sheet].holdsFewCells() || !sheets[other].holdsFewCells()) {
            return error(KIND);
        }
        if (!finder.choosePosts(live, walker, sheets[sheet], sheets[other])) {
            return error(STATE);
        }
        return what == 0 ? Integer.bitCount(finder.places) : finder.places;
    }

    // ---- voices, sheets, images, what is told

    public int voice(int walker, int act, int x) {
        if (!live.hasWalker(walker) || !within(act, 0, 3)) {
            return error(BEYOND);
        }
        int said = voices.speak(live.walkers[walker], walker, act, x);
        if (voices.isParted) {
            return error(PARTED);
        }
        voices.keepTrace();
        return said;
    }

    public int trace(int i) {
        if (!voices.trace.has(i)) {
            return error(NONE);
        }
        return voices.trace.get(i);
    }

    public int sheet(int sheet, int bits, int n) {
        if (!isSheet(sheet) || bits != 0 && bits != 8 && bits != 16 && bits != 32) {
            return error(BEYOND);
        }
        if (bits == 0) {
            sheets[sheet].drop();
            return 1;
        }
        if (n < 0) {
            return error(STATE);
        }
        if (n > Sheet.MOST) {
            return error(BEYOND);
        }
        sheets[sheet].begin(bits, n);
        return 1;
    }

    public int put(int sheet, int i, int v) {
        if (!isSheet(sheet)) {
            return error(BEYOND);
        }
        if (sheets[sheet].isMissing()) {
            return error(NONE);
        }
        if (!sheets[sheet].has(i)) {
            return error(BEYOND);
        }
        sheets[sheet].store(i, v);
        return 1;
    }

    public int move(int sheet, int i, int other, int j, int n) {
        if (!isSheet(sheet) || !isSheet(other)) {
            return error(BEYOND);
        }
        Sheet from = sheets[sheet];
        Sheet to = sheets[other];
        if (from.isMissing() || to.isMissing()) {
            return error(NONE);
        }
        if (from.bits != to.bits) {
            return error(KIND);
        }
        if (!from.hasRun(i, n) || !to.hasRun(j, n)) {
            return error(BEYOND);
        }
        System.arraycopy(from.numbers, i, to.numbers, j, n);
        return n;
    }

    public int image() {
        kept.takeFrom(live);
        images++;
        return images;
    }

    public int restore() {
        if (images == 0) {
            return error(NONE);
        }
        live.takeFrom(kept);
        return live.now;
    }

    public int tell(int v) {
        if (live.waiting.room() == 0) {
            return error(FULL);
        }
        live.waiting.add(v);
        return live.waiting.size;
    }

    public int check(int walker) {
        if (!live.hasWalker(walker)) {
            live.waiting.clear();
            return error(BEYOND);
        }
        trial.takeFrom(live);
        live.waiting.clear();
        for (int i = 0; i < trial.waiting.size; i++) {
            trial.passTenth();
            if (trial.walkers[walker].cell != trial.waiting.get(i)) {
                return 1 + i;
            }
        }
        return 0;
    }

    public int count(int what) {
        switch (what) {
            case 0: return live.now;
            case 1: return live.street.countThings();
            case 2: return live.walkerCount;
            case 3: return live.lessons.size;
            case 4: return live.tape.size;
            case 5: return live.waiting.size;
            case 6: return voices.trace.size;
            case 7: return live.countBumps();
            case 8: return live.countClicks();
            default: return error(BEYOND);
        }
    }

    public int told(int k) {
        return within(k, 1, PARTED) ? errors[k] : error(BEYOND);
    }

    // ---- what the calls share

    private int error(int k) {
        if (k >= 0 && k < errors.length) {
            errors[k]++;
        }
        return LOW - k;
    }

    private static boolean within(int v, int least, int most) {
        return v >= least && v <= most;
    }

    private static boolean isThingKind(int kind) {
        return within(kind, 0, Street.KINDS - 1);
    }

    private static boolean isWalkerKind(int kind) {
        return within(kind, 0, Walker.KINDS - 1);
    }

    private static boolean isSheet(int sheet) {
        return within(sheet, 0, SHEETS - 1);
    }

    private static boolean isBits(int bits) {
        return within(bits, 0, 31);
    }

    /** A short row of numbers with a bound that is set when it is made. */
    private static final class Row {
        private final int[] numbers;
        private int size = 0;

        Row(int most) {
            numbers = new int[Math.max(0, most)];
        }

        int room() {
            return numbers.length - size;
        }

        boolean has(int i) {
            return i >= 0 && i < size;
        }

        int get(int i) {
            return i >= 0 && i < size && i < numbers.length ? numbers[i] : 0;
        }

        void add(int v) {
            if (size >= 0 && size < numbers.length) {
                numbers[size] = v;
                size++;
            }
        }

        void dropLast() {
            if (size > 0) {
                size--;
            }
        }

        void clear() {
            size = 0;
        }

        void takeFrom(Row other) {
            size = Math.min(other.size, numbers.length);
            for (int i = 0; i < size; i++) {
                numbers[i] = other.get(i);
            }
        }
    }

    /** The cells, who is in them, and the things. */
    private static final class Street {
        static final int WIDTH = 16;
        static final int ROWS = 12;
        static final int CELLS = 192;
        static final int KINDS = 5;
        static final int MAN = 3;
        static final int THINGS = 40;
        static final int NOBODY = -1;
        static final int FIRST_WALKER = 100;
        private static final int[] EAST = {0, 1, 1, 1, 0, -1, -1, -1};
        private static final int[] SOUTH = {-1, -1, 0, 1, 1, 1, 0, -1};

        private final int[] occupants = new int[CELLS];
        private final int[] kinds = new int[THINGS];
        private final int[] cells = new int[THINGS];
        private final int[] sides = new int[THINGS];
        private final int[] steps = new int[THINGS];
        private int things = 0;

        Street() {
            for (int i = 0; i < CELLS; i++) {
                occupants[i] = NOBODY;
            }
        }

        static boolean isCell(int cell) {
            return cell >= 0 && cell < CELLS;
        }

        static boolean isSide(int side) {
            return side >= 0 && side < 8;
        }

        /** The cell so many yards from another one in a side, or -1 outside the street. */
        static int cellFrom(int cell, int side, int yards) {
            if (!isCell(cell) || !isSide(side) || yards < 0 || yards > WIDTH) {
                return -1;
            }
            int x = cell % WIDTH + yards * EAST[side];
            int y = cell / WIDTH + yards * SOUTH[side];
            return x < 0 || x >= WIDTH || y < 0 || y >= ROWS ? -1 : WIDTH * y + x;
        }

        boolean isFree(int cell) {
            return isCell(cell) && occupants[cell] == NOBODY;
        }

        void settle(int cell, int who) {
            if (isCell(cell)) {
                occupants[cell] = who;
            }
        }

        boolean hasRoom() {
            return things < THINGS;
        }

        boolean hasThing(int thing) {
            return thing >= 0 && thing < things && thing < THINGS;
        }

        int addThing(int kind, int cell) {
            int thing = things;
            if (thing < 0 || thing >= THINGS) {
                return -1;
            }
            kinds[thing] = kind;
            cells[thing] = cell;
            sides[thing] = 0;
            steps[thing] = 0;
            settle(cell, thing);
            things++;
            return thing;
        }

        int factOf(int thing, int what) {
            if (!hasThing(thing)) {
                return 0;
            }
            switch (what) {
                case 0: return kinds[thing];
                case 1: return cells[thing];
                case 2: return sides[thing];
                default: return steps[thing];
            }
        }

        int takeAway(int thing) {
            if (!hasThing(thing)) {
                return -1;
            }
            int was = cells[thing];
            settle(was, NOBODY);
            cells[thing] = -1;
            return was;
        }

        int countThings() {
            int count = 0;
            for (int i = 0; i < things && i < THINGS; i++) {
                if (cells[i] >= 0) {
                    count++;
                }
            }
            return count;
        }

        /** The kind that gives back a click in a cell; a walker is as a man. */
        int kindIn(int cell) {
            int who = isCell(cell) ? occupants[cell] : NOBODY;
            return hasThing(who) ? kinds[who] : MAN;
        }

        void letThingsGo(int now) {
            for (int i = 0; i < things && i < THINGS; i++) {
                int step = steps[i];
                if (cells[i] >= 0 && step > 0 && now % step == 0) {
                    letThingGo(i);
                }
            }
        }

        private void letThingGo(int thing) {
            if (!hasThing(thing)) {
                return;
            }
            int next = cellFrom(cells[thing], sides[thing], 1);
            if (isFree(next)) {
                settle(cells[thing], NOBODY);
                settle(next, thing);
                cells[thing] = next;
            } else {
                sides[thing] = (sides[thing] + 4) & 7;
            }
        }

        void takeFrom(Street other) {
            System.arraycopy(other.occupants, 0, occupants, 0, CELLS);
            System.arraycopy(other.kinds, 0, kinds, 0, THINGS);
            System.arraycopy(other.cells, 0, cells, 0, THINGS);
            System.arraycopy(other.sides, 0, sides, 0, THINGS);
            System.arraycopy(other.steps, 0, steps, 0, THINGS);
            things = other.things;
        }
    }

    /** One who goes about, with a head. */
    private static final class Walker {
        static final int KINDS = 8;
        static final int CLICKING = 1;
        static final int UNKNOWN = 0;
        static final int HELD_FREE = 1;
        static final int HELD_FULL = 2;
        private static final int MOST_KEPT = 99;
        private static final int FAR = 9;
        private static final int[] ABOVE = {-1, 0, 0, 0, 0, 1, 3, 1};
        private static final int[] REACHES = {3, 12, 1, 6, 0, 6, 5, 10};
        private static final int[] SPEEDS = {1, 1, 1, 1, 1, 1, 1, 2};
        private static final int[] HEARS_TO = {9, 9, 9, 9, 9, 9, 5, 9};

        private int kind = 0;
        private int cell = 0;
        private int side = 0;
        private int pitch = 5;
        private int loudness = 60;
        private int every = 0;
        private boolean isGoing = false;
        private int bumps = 0;
        private int clicks = 0;
        private final int[] yes = new int[Street.CELLS];
        private final int[] no = new int[Street.CELLS];

        /** The kind next above, or -1. */
        static int kindAbove(int kind) {
            return kind >= 0 && kind < KINDS ? ABOVE[kind] : -1;
        }

        void begin(int newKind, int newCell, int newSide) {
            kind = newKind;
            cell = newCell;
            side = newSide;
            pitch = 5;
            loudness = 60;
            every = 0;
            isGoing = false;
            bumps = 0;
            clicks = 0;
            for (int i = 0; i < Street.CELLS; i++) {
                yes[i] = 0;
                no[i] = 0;
            }
        }

        boolean isOf(int wanted) {
            int k = kind;
            for (int i = 0; i < KINDS && k >= 0; i++) {
                if (k == wanted) {
                    return true;
                }
                k = kindAbove(k);
            }
            return false;
        }

        int reach() {
            return kind >= 0 && kind < KINDS ? REACHES[kind] : 0;
        }

        int speed() {
            return kind >= 0 && kind < KINDS ? SPEEDS[kind] : 0;
        }

        int ears() {
            return kind >= 0 && kind < KINDS ? HEARS_TO[kind] : 0;
        }

        /** The pitch and the loudness in one number, as echo() is told them. */
        int ownClick() {
            return 100 * pitch + loudness;
        }

        int factOf(int what) {
            switch (what) {
                case 0: return kind;
                case 1: return cell;
                case 2: return side;
                case 3: return pitch;
                case 4: return loudness;
                case 5: return every;
                case 6: return isGoing ? 1 : 0;
                case 7: return bumps;
                case 8: return clicks;
                case 9: return reach();
                case 10: return speed();
                default: return ears();
            }
        }

        void addYes(int where, int more) {
            if (Street.isCell(where)) {
                yes[where] = Math.min(MOST_KEPT, yes[where] + more);
            }
        }

        void addNo(int where) {
            if (Street.isCell(where)) {
                no[where] = Math.min(MOST_KEPT, no[where] + 1);
            }
        }

        int held(int where) {
            if (!Street.isCell(where) || yes[where] == no[where]) {
                return UNKNOWN;
            }
            return yes[where] > no[where] ? HELD_FULL : HELD_FREE;
        }

        /** Whether one click that tells of an unknown cell would make it known. */
        boolean canLearn(int where) {
            return Street.isCell(where) && yes[where] == no[where] && yes[where] < MOST_KEPT;
        }

        int countHeld(int how) {
            int count = 0;
            for (int i = 0; i < Street.CELLS; i++) {
                if (held(i) == how) {
                    count++;
                }
            }
            return count;
        }

        /** Yards to the nearest cell in a side that is held full, or 0. */
        int yardsToFull(int toSide) {
            for (int yards = 1; yards <= FAR; yards++) {
                if (held(Street.cellFrom(cell, toSide, yards)) == HELD_FULL) {
                    return yards;
                }
            }
            return 0;
        }

        /** How many cells ahead are held free, one behind the other. */
        int yardsHeldFree() {
            int yards = 0;
            while (yards < 15 && held(Street.cellFrom(cell, side, yards + 1)) == HELD_FREE) {
                yards++;
            }
            return yards;
        }

        void turn(int rounds) {
            side = (side + rounds) & 7;
        }

        void takeFrom(Walker other) {
            kind = other.kind;
            cell = other.cell;
            side = other.side;
            pitch = other.pitch;
            loudness = other.loudness;
            every = other.every;
            isGoing = other.isGoing;
            bumps = other.bumps;
            clicks = other.clicks;
            System.arraycopy(other.yes, 0, yes, 0, Street.CELLS);
            System.arraycopy(other.no, 0, no, 0, Street.CELLS);
        }
    }

    /** What holds for all sounds: the air, the kinds of things, the texts. */
    private static final class Laws {
        static final int USES = 3;
        static final int MOST_STRENGTH = 999;
        private static final int STRENGTH = 0;
        private static final int HEARD = 1;
        private static final int HABIT = 2;

        private int noise = 5;
        private int mask = 9;
        private int snow = 0;
        private final int[] loud = new int[Street.KINDS];
        private final int[] sharp = new int[Street.KINDS];
        private final Formula[] texts = new Formula[USES];
        private final int[] values = new int[Formula.NAMES];

        Laws() {
            for (int i = 0; i < Street.KINDS; i++) {
                loud[i] = 50;
            }
            for (int i = 0; i < USES; i++) {
                texts[i] = new Formula();
            }
        }

        static boolean isClick(int pitch, int loudness) {
            return within(pitch, 1, 9) && within(loudness, 1, 99);
        }

        static boolean isClick(int click) {
            return click > 0 && isClick(click / 100, click % 100);
        }

        static int late(int side, int yards) {
            return yards * ((side & 1) == 1 ? 8 : 6);
        }

        int changeKind(int kind, int what, int v) {
            int[] row = what == 0 ? loud : sharp;
            if (kind < 0 || kind >= row.length) {
                return 0;
            }
            int was = row[kind];
            row[kind] = v;
            return was;
        }

        int changeAir(int what, int v) {
            int was = what == 0 ? noise : what == 1 ? mask : snow;
            if (what == 0) {
                noise = v;
            } else if (what == 1) {
                mask = v;
            } else {
                snow = v;
            }
            return was;
        }

        int strength(int kind, int click, int yards) {
            int pitch = click / 100;
            int loudness = click % 100;
            if (kind < 0 || kind >= Street.KINDS || sharp[kind] > pitch) {
                return 0;
            }
            int told = loudness * loud[kind] / 50 - 2 * yards;
            if (texts[STRENGTH].isGiven()) {
                values[0] = loudness;
                values[1] = loud[kind];
                values[2] = yards;
                values[3] = pitch;
                told = texts[STRENGTH].work(values);
            }
            int held = Math.max(0, Math.min(MOST_STRENGTH, told));
            return snow == 1 ? held / 2 : held;
        }

        boolean isHeard(int ears, int click, int late, int strength) {
            if (click / 100 > ears || late <= mask || strength == 0) {
                return false;
            }
            if (!texts[HEARD].isGiven()) {
                return strength > noise;
            }
            values[0] = strength;
            values[1] = noise;
            values[2] = late;
            return texts[HEARD].work(values) != 0;
        }

        boolean hears(int ears, int kind, int click, int yards, int side) {
            return isHeard(ears, click, late(side, yards), strength(kind, click, yards));
        }

        int habitValue(int front, int left, int right, int bumps, int now) {
            if (!texts[HABIT].isGiven()) {
                return front == 1 ? 1 : 0;
            }
            values[0] = front;
            values[1] = left;
            values[2] = right;
            values[3] = bumps;
            values[4] = now;
            return texts[HABIT].work(values);
        }

        int kindsAlike(int ears, int click, int yards, int side, int strength) {
            int bits = 0;
            for (int kind = 0; kind < Street.KINDS; kind++) {
                if (strength(kind, click, yards) == strength && hears(ears, kind, click, yards, side)) {
                    bits |= 1 << kind;
                }
            }
            return bits;
        }

        /** The least pitch, or 0. */
        int leastPitch(int ears, int kind, int yards) {
            for (int pitch = 1; pitch <= 9; pitch++) {
                if (hears(ears, kind, 100 * pitch + 99, yards, 0)) {
                    return pitch;
                }
            }
            return 0;
        }

        /** The least loudness, or 0. */
        int leastLoudness(int ears, int kind, int yards) {
            for (int loudness = 1; loudness <= 99; loudness++) {
                if (hears(ears, kind, 100 * Math.min(9, ears) + loudness, yards, 0)) {
                    return loudness;
                }
            }
            return 0;
        }

        void takeFrom(Laws other) {
            noise = other.noise;
            mask = other.mask;
            snow = other.snow;
            System.arraycopy(other.loud, 0, loud, 0, Street.KINDS);
            System.arraycopy(other.sharp, 0, sharp, 0, Street.KINDS);
            for (int i = 0; i < USES; i++) {
                texts[i].takeFrom(other.texts[i]);
            }
        }
    }

    /** A text as it is worked out: numbers, names and signs, each sign behind what it joins. */
    private static final class Formula {
        static final int MOST = 48;
        static final int NAMES = 5;
        /** Codes below it are numbers. */
        static final int FIRST_NAME = 1000;
        /** Codes from it on are signs, by their byte. */
        static final int FIRST_SIGN = 2000;
        static final int NEGATE = FIRST_SIGN + '~';
        static final int CHOOSE = FIRST_SIGN + '?';

        private final int[] codes = new int[MOST];
        private final int[] stack = new int[MOST];
        private int size = 0;

        boolean isGiven() {
            return size > 0;
        }

        void clear() {
            size = 0;
        }

        void add(int code) {
            if (size >= 0 && size < MOST) {
                codes[size] = code;
                size++;
            }
        }

        int work(int[] values) {
            int top = 0;
            for (int i = 0; i < size && i < MOST; i++) {
                int code = codes[i];
                int name = code - FIRST_NAME;
                if (code < FIRST_SIGN && top < MOST) {
                    stack[top] = name < 0 ? code : name < values.length ? values[name] : 0;
                    top++;
                } else if (code == NEGATE && top >= 1) {
                    stack[top - 1] = -stack[top - 1];
                } else if (code == CHOOSE && top >= 3) {
                    top -= 2;
                    stack[top - 1] = stack[top - 1] != 0 ? stack[top] : stack[top + 1];
                } else if (top >= 2) {
                    top--;
                    int a = stack[top - 1];
                    int b = stack[top];
                    int joined = 0;
                    switch (code - FIRST_SIGN) {
                        case '<': joined = a < b ? 1 : 0; break;
                        case '=': joined = a == b ? 1 : 0; break;
                        case '>': joined = a > b ? 1 : 0; break;
                        case '+': joined = a + b; break;
                        case '-': joined = a - b; break;
                        case '*': joined = a * b; break;
                        case '/': joined = b == 0 ? 0 : a / b; break;
                        default: joined = b == 0 ? 0 : a % b; break;
                    }
                    stack[top - 1] = joined;
                }
            }
            return top > 0 ? stack[0] : 0;
        }

        void takeFrom(Formula other) {
            size = other.size;
            System.arraycopy(other.codes, 0, codes, 0, MOST);
        }
    }

    /** Reads the tape as a text into a draft. */
    private static final class Reader {
        private static final int MOST_OPEN = 5;
        private static final int MOST_DIGITS = 3;

        private final Formula draft = new Formula();
        private Row tape = new Row(0);
        private String names = "";
        private int place = 0;
        private int fault = -1;
        private int open = 0;
        private int parts = 0;

        /** How many numbers and names; -10 less the fault if there is one. */
        int read(Row from, int use) {
            tape = from;
            names = use == Laws.STRENGTH ? "loyp" : use == Laws.HEARD ? "snt" : "flrbt";
            place = 0;
            fault = -1;
            open = 0;
            parts = 0;
            draft.clear();
            readComparisons();
            if (next() >= 0) {
                fail();
            }
            return fault < 0 ? parts : -10 - fault;
        }

        /** The next byte that is no blank, or -1. */
        private int next() {
            while (place < tape.size && tape.get(place) == ' ') {
                place++;
            }
            return place < tape.size ? tape.get(place) : -1;
        }

        private void fail() {
            if (fault < 0) {
                fault = place;
            }
        }

        private void expect(int sign) {
            if (next() != sign) {
                fail();
            } else {
                place++;
            }
        }

        private void readComparisons() {
            readSum();
            for (int i = 0; i < Formula.MOST && fault < 0; i++) {
                int sign = next();
                if (sign != '<' && sign != '=' && sign != '>') {
                    return;
                }
                place++;
                readSum();
                draft.add(Formula.FIRST_SIGN + sign);
            }
        }

        private void readSum() {
            readTerm();
            for (int i = 0; i < Formula.MOST && fault < 0; i++) {
                int sign = next();
                if (sign != '+' && sign != '-') {
                    return;
                }
                place++;
                readTerm();
                draft.add(Formula.FIRST_SIGN + sign);
            }
        }

        private void readTerm() {
            readOne();
            for (int i = 0; i < Formula.MOST && fault < 0; i++) {
                int sign = next();
                if (sign != '*' && sign != '/' && sign != '%') {
                    return;
                }
                place++;
                readOne();
                draft.add(Formula.FIRST_SIGN + sign);
            }
        }

        private void readOne() {
            if (fault >= 0) {
                return;
            }
            int sign = next();
            if (sign >= '0' && sign <= '9') {
                readNumber();
            } else if (sign == '-' || sign == '(' || sign == '[') {
                readOpened(sign);
            } else {
                readName(sign);
            }
        }

        private void readNumber() {
            int number = 0;
            for (int i = 0; i < MOST_DIGITS; i++) {
                int digit = place < tape.size ? tape.get(place) - '0' : -1;
                if (digit < 0 || digit > 9) {
                    break;
                }
                number = 10 * number + digit;
                place++;
            }
            draft.add(number);
            parts++;
        }

        private void readName(int sign) {
            int name = sign < 0 || sign > 127 ? -1 : names.indexOf((char) sign);
            if (name < 0) {
                fail();
                return;
            }
            place++;
            draft.add(Formula.FIRST_NAME + name);
            parts++;
        }

        private void readOpened(int sign) {
            if (open >= MOST_OPEN) {
                fail();
                return;
            }
            open++;
            place++;
            if (sign == '-') {
                readOne();
                draft.add(Formula.NEGATE);
            } else if (sign == '(') {
                readComparisons();
                expect(')');
            } else {
                readComparisons();
                expect('?');
                readComparisons();
                expect(':');
                readComparisons();
                expect(']');
                draft.add(Formula.CHOOSE);
            }
            open--;
        }
    }

    /** Lessons, and the best row of them. */
    private static final class Lessons {
        static final int MOST = 7;

        private final int[] tells = new int[MOST];
        private final int[] needs = new int[MOST];
        private final int[] minutes = new int[MOST];
        private int size = 0;
        private final Row tried = new Row(MOST);
        private final Row best = new Row(MOST);
        private int wantedBits = 0;
        private int fewestMinutes = 0;
        private boolean isFound = false;

        boolean hasRoom() {
            return size < MOST;
        }

        int add(int newTells, int newNeeds, int newMinutes) {
            int number = size;
            if (number < 0 || number >= MOST) {
                return -1;
            }
            tells[number] = newTells;
            needs[number] = newNeeds;
            minutes[number] = newMinutes;
            size++;
            return number;
        }

        boolean findRow(int known, int wanted) {
            wantedBits = wanted;
            isFound = false;
            fewestMinutes = 0;
            tried.clear();
            best.clear();
            tryRows(known, 0, 0);
            return isFound;
        }

        /** Rows are tried by numbers, so that of equal ones the first is kept. */
        private void tryRows(int known, int used, int spent) {
            if ((wantedBits & ~known) == 0) {
                if (!isFound || isBetter(spent)) {
                    isFound = true;
                    fewestMinutes = spent;
                    best.takeFrom(tried);
                }
                return;
            }
            if (tried.room() == 0 || isFound && spent > fewestMinutes) {
                return;
            }
            for (int i = 0; i < size && i < MOST; i++) {
                if ((used & 1 << i) == 0 && (needs[i] & ~known) == 0) {
                    tried.add(i);
                    tryRows(known | tells[i], used | 1 << i, spent + minutes[i]);
                    tried.dropLast();
                }
            }
        }

        private boolean isBetter(int spent) {
            return spent < fewestMinutes || spent == fewestMinutes && tried.size < best.size;
        }

        void takeFrom(Lessons other) {
            System.arraycopy(other.tells, 0, tells, 0, MOST);
            System.arraycopy(other.needs, 0, needs, 0, MOST);
            System.arraycopy(other.minutes, 0, minutes, 0, MOST);
            size = other.size;
        }
    }

    /** A row of numbers of 8, 16 or 32 bits; missing while it has no bits. */
    private static final class Sheet {
        static final int MOST = 24;
        private static final int FEW = 8;

        private int bits = 0;
        private int size = 0;
        private final int[] numbers = new int[MOST];

        boolean isMissing() {
            return bits == 0;
        }

        void drop() {
            bits = 0;
            size = 0;
        }

        void begin(int newBits, int n) {
            bits = newBits;
            size = Math.max(0, Math.min(MOST, n));
            for (int i = 0; i < MOST; i++) {
                numbers[i] = 0;
            }
        }

        boolean has(int i) {
            return i >= 0 && i < size && i < MOST;
        }

        int numberAt(int i) {
            return has(i) ? numbers[i] : 0;
        }

        void store(int i, int v) {
            if (has(i)) {
                numbers[i] = bits == 8 ? (byte) v : bits == 16 ? (short) v : v;
            }
        }

        /** Whether n numbers stand from number i on. */
        boolean hasRun(int i, int n) {
            return i >= 0 && n >= 0 && i <= size && n <= size - i;
        }

        /** Whether it has 1 to 8 numbers, all of them cells. */
        boolean holdsFewCells() {
            if (size < 1 || size > FEW) {
                return false;
            }
            for (int i = 0; i < size; i++) {
                if (!Street.isCell(numberAt(i))) {
                    return false;
                }
            }
            return true;
        }

        boolean hasTwoAlike() {
            for (int i = 1; i < size; i++) {
                for (int j = 0; j < i; j++) {
                    if (numberAt(i) == numberAt(j)) {
                        return true;
                    }
                }
            }
            return false;
        }
    }

    /** All that an image keeps. */
    private static final class World {
        static final int WALKERS = 8;

        private final Street street = new Street();
        private final Laws laws = new Laws();
        private final Lessons lessons = new Lessons();
        private final Row tape = new Row(Formula.MOST);
        private final Row waiting = new Row(24);
        private final Walker[] walkers = new Walker[WALKERS];
        private int walkerCount = 0;
        private int now = 0;

        World() {
            for (int i = 0; i < WALKERS; i++) {
                walkers[i] = new Walker();
            }
        }

        boolean hasWalker(int walker) {
            return walker >= 0 && walker < walkerCount && walker < WALKERS;
        }

        int addWalker(int kind, int cell, int side) {
            int walker = walkerCount;
            if (walker < 0 || walker >= WALKERS) {
                return -1;
            }
            walkers[walker].begin(kind, cell, side);
            street.settle(cell, Street.FIRST_WALKER + walker);
            walkerCount++;
            return walker;
        }

        int countBumps() {
            int count = 0;
            for (int i = 0; i < walkerCount && i < WALKERS; i++) {
                count += walkers[i].bumps;
            }
            return count;
        }

        int countClicks() {
            int count = 0;
            for (int i = 0; i < walkerCount && i < WALKERS; i++) {
                count += walkers[i].clicks;
            }
            return count;
        }

        /** Whether a cell would be free if that walker were not where it is. */
        boolean isFreeBut(int walker, int cell) {
            if (cell < 0 || cell >= Street.CELLS) {
                return false;
            }
            int who = street.occupants[cell];
            return who == Street.NOBODY || who == Street.FIRST_WALKER + walker;
        }

        /** Yards of the echo that a walker would get from a side if it were in a cell, or 0. */
        int echoYards(int walker, int from, int side) {
            int reach = hasWalker(walker) ? walkers[walker].reach() : 0;
            for (int yards = 1; yards <= reach; yards++) {
                int cell = Street.cellFrom(from, side, yards);
                if (cell < 0) {
                    return 0;
                }
                if (!isFreeBut(walker, cell)) {
                    return yards;
                }
            }
            return 0;
        }

        /** Yards of the echo of the own click if it would be heard, or 0. */
        int heardYards(int walker, int from, int side) {
            int yards = echoYards(walker, from, side);
            if (yards == 0 || !hasWalker(walker)) {
                return 0;
            }
            Walker who = walkers[walker];
            int kind = street.kindIn(Street.cellFrom(from, side, yards));
            return laws.hears(who.ears(), kind, who.ownClick(), yards, side) ? yards : 0;
        }

        int echoFact(int walker, int click, int side, int what) {
            if (!hasWalker(walker)) {
                return 0;
            }
            Walker who = walkers[walker];
            int yards = echoYards(walker, who.cell, side);
            int late = Laws.late(side, yards);
            int strength = laws.strength(street.kindIn(Street.cellFrom(who.cell, side, yards)), click, yards);
            int round = (side - who.side) & 7;
            switch (what) {
                case 0: return yards;
                case 1: return late;
                case 2: return strength;
                case 3: return round >= 1 && round <= 3 ? strength / 2 : strength;
                case 4: return round >= 5 ? strength / 2 : strength;
                default: return laws.isHeard(who.ears(), click, late, strength) ? 1 : 0;
            }
        }

        int makeClick(int walker) {
            if (!hasWalker(walker)) {
                return 0;
            }
            Walker who = walkers[walker];
            who.clicks++;
            int heard = 0;
            for (int side = 0; side < 8; side++) {
                int yards = heardYards(walker, who.cell, side);
                if (yards > 0) {
                    heard++;
                    who.addYes(Street.cellFrom(who.cell, side, yards), 1);
                }
                for (int nearer = 1; nearer < yards; nearer++) {
                    who.addNo(Street.cellFrom(who.cell, side, nearer));
                }
            }
            return heard;
        }

        int countWrong(int walker) {
            if (!hasWalker(walker)) {
                return 0;
            }
            int count = 0;
            for (int cell = 0; cell < Street.CELLS; cell++) {
                int held = walkers[walker].held(cell);
                int right = isFreeBut(walker, cell) ? Walker.HELD_FREE : Walker.HELD_FULL;
                if (held != Walker.UNKNOWN && held != right) {
                    count++;
                }
            }
            return count;
        }

        int sureYards(int walker) {
            if (!hasWalker(walker)) {
                return 0;
            }
            Walker who = walkers[walker];
            int yards = heardYards(walker, who.cell, who.side);
            return yards > 0 ? yards - 1 : who.yardsHeldFree();
        }

        void passTenth() {
            now++;
            street.letThingsGo(now);
            for (int i = 0; i < walkerCount && i < WALKERS; i++) {
                if (walkers[i].isGoing) {
                    letWalkerGo(i);
                }
            }
        }

        private void letWalkerGo(int walker) {
            if (!hasWalker(walker)) {
                return;
            }
            Walker who = walkers[walker];
            int every = who.every;
            if (every > 0 && now % every == 0 && who.isOf(Walker.CLICKING)) {
                makeClick(walker);
            }
            int front = who.yardsToFull(who.side);
            int left = who.yardsToFull((who.side + 6) & 7);
            int right = who.yardsToFull((who.side + 2) & 7);
            int act = Math.floorMod(laws.habitValue(front, left, right, who.bumps, now), 4);
            if (act == 0) {
                goOn(walker);
            } else {
                who.turn(act == 3 ? -2 : act);
            }
        }

        private void goOn(int walker) {
            if (!hasWalker(walker)) {
                return;
            }
            Walker who = walkers[walker];
            for (int i = 0; i < who.speed(); i++) {
                int next = Street.cellFrom(who.cell, who.side, 1);
                if (!street.isFree(next)) {
                    who.bumps++;
                    who.addYes(next, 3);
                    return;
                }
                street.settle(who.cell, Street.NOBODY);
                street.settle(next, Street.FIRST_WALKER + walker);
                who.cell = next;
            }
        }

        void takeFrom(World other) {
            street.takeFrom(other.street);
            laws.takeFrom(other.laws);
            lessons.takeFrom(other.lessons);
            tape.takeFrom(other.tape);
            waiting.takeFrom(other.waiting);
            walkerCount = other.walkerCount;
            now = other.now;
            for (int i = 0; i < walkerCount && i < WALKERS; i++) {
                walkers[i].takeFrom(other.walkers[i]);
            }
        }
    }

    /** Looks for the least ways by what a head holds, and for the best cells of a sheet. */
    private static final class Finder {
        private static final int FEW = 8;
        private static final int UNREACHED = 1000000;

        /** What the way from each cell to the target costs. */
        private final int[] costs = new int[Street.CELLS];
        private final boolean[] isDone = new boolean[Street.CELLS];

        /** Three words a place: the cells that a click there would tell. */
        private final long[] learned = new long[3 * FEW];
        /** By places of the other sheet: the posts that are heard there, as bits. */
        private final int[] heardPosts = new int[FEW];
        /** The cells that are learned from the best spots. */
        private int most = 0;
        /** The best spots or posts, as bits of their places on the sheet. */
        private int places = 0;

        /** From the target back, so that a way can then be gone by the first sides. */
        void measure(Walker who, int target) {
            for (int i = 0; i < Street.CELLS; i++) {
                costs[i] = UNREACHED;
                isDone[i] = false;
            }
            if (Street.isCell(target)) {
                costs[target] = 0;
            }
            for (int i = 0; i < Street.CELLS; i++) {
                int nearest = nearestOpen();
                if (nearest < 0) {
                    return;
                }
                isDone[nearest] = true;
                int cost = costs[nearest] + costInto(who, nearest);
                for (int side = 0; side < 8; side += 2) {
                    int beside = Street.cellFrom(nearest, side, 1);
                    if (beside >= 0 && cost < costs[beside]) {
                        costs[beside] = cost;
                    }
                }
            }
        }

        private int nearestOpen() {
            int nearest = -1;
            for (int i = 0; i < Street.CELLS; i++) {
                if (!isDone[i] && costs[i] < UNREACHED && (nearest < 0 || costs[i] < costs[nearest])) {
                    nearest = i;
                }
            }
            return nearest;
        }

        private static int costInto(Walker who, int cell) {
            int held = who.held(cell);
            return held == Walker.HELD_FREE ? 1 : held == Walker.HELD_FULL ? 20 : 3;
        }

        int costFrom(int cell) {
            return Street.isCell(cell) ? costs[cell] : UNREACHED;
        }

        /** The cell behind so many steps of the way that was measured, or -1. */
        int cellAfter(Walker who, int target, int steps) {
            int cell = who.cell;
            if (steps >= Street.CELLS) {
                return -1;
            }
            for (int i = 0; i < steps; i++) {
                if (cell == target || cell < 0) {
                    return -1;
                }
                cell = firstStep(who, cell);
            }
            return cell;
        }

        private int firstStep(Walker who, int cell) {
            for (int side = 0; side < 8; side += 2) {
                int beside = Street.cellFrom(cell, side, 1);
                if (beside >= 0 && costFrom(beside) + costInto(who, beside) == costFrom(cell)) {
                    return beside;
                }
            }
            return -1;
        }

        boolean chooseSpots(World world, int walker, Sheet sheet, int k) {
            int free = 0;
            for (int i = 0; i < sheet.size && i < FEW; i++) {
                if (world.street.isFree(sheet.numberAt(i))) {
                    free |= 1 << i;
                    noteLearned(world, walker, i, sheet.numberAt(i));
                }
            }
            most = -1;
            places = 0;
            for (int bits = 1; bits < 1 << FEW; bits++) {
                if ((bits & ~free) == 0 && Integer.bitCount(bits) == k) {
                    int count = countLearned(bits);
                    if (count > most) {
                        most = count;
                        places = bits;
                    }
                }
            }
            return most >= 0;
        }

        private void noteLearned(World world, int walker, int place, int from) {
            if (place < 0 || place >= FEW || !world.hasWalker(walker)) {
                return;
            }
            for (int i = 0; i < 3; i++) {
                learned[3 * place + i] = 0;
            }
            Walker who = world.walkers[walker];
            for (int side = 0; side < 8; side++) {
                int heard = world.heardYards(walker, from, side);
                for (int yards = 1; yards <= heard; yards++) {
                    int cell = Street.cellFrom(from, side, yards);
                    if (who.canLearn(cell)) {
                        learned[3 * place + cell / 64] |= 1L << (cell % 64);
                    }
                }
            }
        }

        private int countLearned(int bits) {
            int count = 0;
            for (int word = 0; word < 3; word++) {
                long all = 0;
                for (int i = 0; i < FEW; i++) {
                    if ((bits & 1 << i) != 0) {
                        all |= learned[3 * i + word];
                    }
                }
                count += Long.bitCount(all);
            }
            return count;
        }

        boolean choosePosts(World world, int walker, Sheet sheet, Sheet other) {
            for (int j = 0; j < other.size && j < FEW; j++) {
                heardPosts[j] = 0;
                for (int i = 0; i < sheet.size && i < FEW; i++) {
                    if (wouldHear(world, walker, other.numberAt(j), sheet.numberAt(i))) {
                        heardPosts[j] |= 1 << i;
                    }
                }
            }
            places = 0;
            for (int bits = 1; bits < 1 << FEW; bits++) {
                boolean isFewer = places == 0 || Integer.bitCount(bits) < Integer.bitCount(places);
                if (isFewer && bits < 1 << sheet.size && servesAll(bits, other.size)) {
                    places = bits;
                }
            }
            return places != 0;
        }

        private boolean servesAll(int bits, int size) {
            for (int j = 0; j < size && j < FEW; j++) {
                if ((bits & heardPosts[j]) == 0) {
                    return false;
                }
            }
            return true;
        }

        /** Whether a walker in a cell would hear a pole that stood in another one. */
        private static boolean wouldHear(World world, int walker, int from, int post) {
            if (!world.hasWalker(walker)) {
                return false;
            }
            Walker who = world.walkers[walker];
            for (int side = 0; side < 8; side++) {
                for (int yards = 1; yards <= who.reach(); yards++) {
                    int cell = Street.cellFrom(from, side, yards);
                    if (!world.isFreeBut(walker, cell)) {
                        break;
                    }
                    if (cell == post) {
                        return world.laws.hears(who.ears(), 1, who.ownClick(), yards, side);
                    }
                }
            }
            return false;
        }
    }

    /** What walkers say, by the bodies of their kinds. */
    private static final class Voices {
        private static final int SOUNDS = 0;
        private static final int HEARS = 1;
        private static final int KNOWS = 2;
        private static final int TELLS = 3;
        private static final int ACTS = 4;
        private static final int MOST_DEEP = 30;
        /** By kinds, four acts each: the number of the body, or 0. */
        private static final int[] BODIES = {
            10, 11, 12, 13,
            20, 0, 0, 21,
            0, 30, 0, 0,
            40, 0, 41, 0,
            0, 0, 50, 0,
            0, 60, 0, 0,
            0, 70, 71, 0,
            0, 0, 0, 80
        };

        private final Row begun = new Row(30);
        private final Row trace = new Row(30);
        private int kind = 0;
        private int number = 0;
        private int pitch = 0;
        private boolean isParted = false;

        int speak(Walker who, int walker, int act, int x) {
            begun.clear();
            kind = who.kind;
            number = walker;
            pitch = who.pitch;
            isParted = false;
            return say(kind, act, x, 0);
        }

        /** A voice that parted is an error, and so leaves the trace as it was. */
        void keepTrace() {
            trace.takeFrom(begun);
        }

        /** The body of a kind, or of the next kind above that has one. */
        private int say(int fromKind, int act, int x, int deep) {
            int k = fromKind;
            for (int i = 0; i < Walker.KINDS && k >= 0; i++) {
                int place = ACTS * k + act;
                int body = place >= 0 && place < BODIES.length ? BODIES[place] : 0;
                if (body != 0) {
                    return deep < MOST_DEEP ? run(body, x, deep + 1) : 0;
                }
                k = Walker.kindAbove(k);
            }
            return 0;
        }

        private int own(int act, int x, int deep) {
            return say(kind, act, x, deep);
        }

        private int run(int body, int x, int deep) {
            begun.add(body);
            int above = Walker.kindAbove(body / 10 - 1);
            switch (body) {
                case 10: return x + pitch;
                case 11: return own(SOUNDS, x, deep) * 2;
                case 12: return own(HEARS, x, deep) - number;
                case 13: return parted(x);
                case 20: return say(above, SOUNDS, x, deep) * 3;
                case 21: return say(above, TELLS, x, deep) + own(KNOWS, 1, deep);
                case 30: return say(above, HEARS, x, deep) ^ pitch;
                case 40: return 0 - say(above, SOUNDS, x, deep);
                case 41: return say(above, KNOWS, x, deep) + 5;
                case 50: return say(above, KNOWS, x - 1, deep);
                case 60: return say(above, HEARS, x + 2, deep);
                case 70: return say(above, HEARS, x, deep) / 2;
                case 71: return say(above, KNOWS, x, deep) - own(SOUNDS, 2, deep);
                case 80: return say(above, TELLS, x, deep) - own(HEARS, x, deep);
                default: return 0;
            }
        }

        private int parted(int x) {
            if (number == 3) {
                isParted = true;
                return 0;
            }
            return x / (number - 3);
        }
    }
}
