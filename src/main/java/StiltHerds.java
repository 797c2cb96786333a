import java.util.Arrays;
import java.util.NoSuchElementException;

/** A flooded moor whose shepherds go on stilts as high as their flock is large, told as a text. */
public final class StiltHerds {
    public static final int NONE = -1;

    /** CELLS are numbered 10 times Y and X, so a row of the grid takes ten numbers whatever its width. */
    private static final int SIDE = 10;
    private static final int CELLS = 100;
    private static final int DAYS = 30;
    private static final int HERDS = 8;
    private static final int THINGS = 12;
    private static final int LEAST_COLUMNS = 2;
    private static final int MOST_NUMBER = 99;
    private static final int MOST_ROUNDS = 20;
    private static final int MOST_WALKS = 200;
    private static final int MOST_HOLES = 40;
    private static final int PLAN_LINES = 30;
    private static final int UNDOS = 8;
    private static final int IMAGES = 2;

    private static final int TAPE_BYTES = 940;
    private static final int FEED_BYTES = 20;
    private static final int MOOR_BYTES = 900;
    private static final int PLAN_BYTES = 400;
    private static final int MOST_LETTERS = 6;
    private static final int MOST_DIGITS = 2;
    /** A WORD is held as a number: six letters of five bits fit an int, so unlike WORDS stay unlike. */
    private static final int LETTER_BASE = 32;
    private static final int BEFORE_A = 'a' - 1;

    /** Kinds of TOKENS. */
    private static final int NO_TOKEN = 0;
    private static final int WORD = 1;
    private static final int NUMBER = 2;
    private static final int SEMICOLON = 3;
    private static final int TEXT_END = 4;

    /** Kinds of FAULTS. */
    private static final int CANNOT_COME = 1;
    private static final int NOT_AS_TOLD = 2;
    private static final int TOLD_AGAIN = 3;
    private static final int TOO_MANY = 4;

    /** The words of a MOOR and of a PLAN, in the order of the numbers below, each with a blank behind it. */
    private static final String WORDS =
        "row law timber water wind fog door mud ladder herd wolf go sell buy day night ";
    private static final int WORD_COUNT = 16;
    private static final int ROW = 0;
    private static final int LAW = 1;
    private static final int TIMBER = 2;
    private static final int WATER_WORD = 3;
    private static final int WIND_WORD = 4;
    private static final int FOG_WORD = 5;
    private static final int DOOR_WORD = 6;
    private static final int MUD_WORD = 7;
    private static final int LADDER_WORD = 8;
    private static final int HERD = 9;
    private static final int WOLF = 10;
    private static final int GO = 11;
    private static final int SELL = 12;
    private static final int BUY = 13;
    private static final int DAY = 14;
    private static final int NIGHT = 15;

    /** Sorts of weather, in the order of their words. */
    private static final int WATER = 0;
    private static final int WIND = 1;
    private static final int FOG = 2;
    private static final int WEATHERS = 3;

    /** Sorts of things on CELLS, in the order of their words. */
    private static final int DOOR = 0;
    private static final int MUD = 1;
    private static final int LADDER = 2;
    private static final int SORTS = 3;

    /** Reasons by which an ACT is WRONG. */
    private static final int NO_WAY = 1;
    private static final int TOO_FEW_HEADS = 2;
    private static final int TOO_MANY_HEADS = 3;
    private static final int LAST_DAY = 4;
    private static final int NO_WOLF = 5;

    private static final int DIRECTIONS = 4;
    private static final String LETTERS = "nesw";
    private static final int BITS = 64;

    /** One RISK outweighs all the STEPS of a WAY, so that one number orders by RISK, then by STEPS. */
    private static final int RISK_WEIGHT = 1000;
    private static final int FAR_OFF = 1000000000;

    /** What judged() tells, by its argument. */
    private static final int WHY = 0;
    private static final int LINES_DONE = 1;
    private static final int END_DAY = 2;
    private static final int END_HEADS = 3;
    private static final int STEPS_GONE = 4;
    private static final int HEADS_TAKEN = 5;
    private static final int VERDICTS = 6;

    private final Tape tape;
    private final Reader reader;
    private final Image here;
    private final Moor land;
    private final Scene now;
    private final Image[] kept;
    private final Moor freshLand;
    private final Plan freshPlan;
    private final Ways ways;
    private final Heights heights;
    private final Watch watch;
    private final Acts acts;
    private final Wall wall;
    private final int[] text;
    private int textLength;
    private final int[] walked;
    private int walkedCells;

    public StiltHerds() {
        tape = new Tape();
        reader = new Reader(tape);
        here = new Image();
        land = here.land;
        now = here.scene;
        kept = new Image[IMAGES];
        for (int k = 0; k < IMAGES; k++) {
            kept[k] = new Image();
        }
        freshLand = new Moor();
        freshPlan = new Plan();
        ways = new Ways(land);
        heights = new Heights(land);
        watch = new Watch(land, now);
        acts = new Acts(land, ways, now);
        wall = new Wall(land, now);
        text = new int[CELLS];
        walked = new int[CELLS];
    }

    // ---- the tape and the texts

    public int feed(int a, int b, int c, int d, int e) {
        if (tape.length + FEED_BYTES > TAPE_BYTES) {
            return NONE;
        }
        tape.putNumber(a);
        tape.putNumber(b);
        tape.putNumber(c);
        tape.putNumber(d);
        tape.putNumber(e);
        return tape.length;
    }

    public boolean end(int n) {
        if (n < 0 || n > tape.length) {
            return false;
        }
        tape.length = n;
        return true;
    }

    public int moor() {
        int lines = reader.readMoor(freshLand);
        tape.length = 0;
        if (lines >= 0) {
            land.copyFrom(freshLand);
            now.beginOn(land);
            here.plan.lines = 0;
            acts.forget();
        }
        return lines;
    }

    public int fault() {
        return reader.fault;
    }

    public int plan() {
        int lines = reader.readPlan(freshPlan, land);
        tape.length = 0;
        if (lines >= 0) {
            here.plan.copyFrom(freshPlan);
        }
        return lines;
    }

    // ---- what there is

    public int cell(int at, int what) throws NoSuchElementException {
        if (!land.hasCell(at) || what < 0 || what > 5) {
            throw new NoSuchElementException();
        }
        switch (what) {
            case 0:
                return land.ground[at];
            case 1:
                return land.depthOf(at, waterToday());
            case 2:
                return land.thing[DOOR * CELLS + at];
            case 3:
                return land.thing[MUD * CELLS + at];
            case 4:
                return herdsOn(at);
            default:
                return now.wolfCell == at ? 1 : 0;
        }
    }

    public int herd(int h, int what) throws NoSuchElementException {
        if (!isHerd(h) || what < 0 || what > 4) {
            throw new NoSuchElementException();
        }
        switch (what) {
            case 0:
                return now.cells[h];
            case 1:
                return now.heads[h];
            case 2:
                return stiltsOf(h);
            case 3:
                return land.timberFor(stiltsOf(h));
            default:
                return watch.eyeOf(h);
        }
    }

    public int on(int day, int what) {
        if (!isDay(day) || what < 0 || what >= WEATHERS) {
            return NONE;
        }
        return land.weatherOn(what, day);
    }

    public int timber() {
        int all = 0;
        for (int h = 0; h < land.herds; h++) {
            all += land.timberFor(stiltsOf(h));
        }
        return all;
    }

    public int flock() {
        return now.headsOfAll(land.herds);
    }

    public int deepest(int day) {
        if (!isDay(day)) {
            return NONE;
        }
        int water = land.weatherOn(WATER, day);
        int best = NONE;
        for (int at = 0; at < land.span(); at++) {
            if (land.hasCell(at)
                && (best == NONE || land.depthOf(at, water) > land.depthOf(best, water))) {
                best = at;
            }
        }
        return best;
    }

    public int count(int what) {
        switch (what) {
            case 0:
                return land.columns;
            case 1:
                return land.rows;
            case 2:
                return land.each;
            case 3:
                return land.most;
            case 4:
                return land.things[DOOR];
            case 5:
                return land.things[MUD];
            case 6:
                return land.herds;
            case 7:
                return now.day;
            case 8:
                return here.plan.lines;
            case 9:
                return tape.length;
            case 10:
                return land.things[LADDER];
            default:
                return NONE;
        }
    }

    // ---- ways

    public int near(int h, int n) {
        if (!isHerd(h) || !isNumber(n)) {
            return NONE;
        }
        int bits = 0;
        // Without a WAY from its own CELL nothing is reached, and the distances would be stale.
        if (ways.reachFrom(now.cells[h], stiltsOf(h), waterToday()) > 0) {
            for (int other = 0; other < land.herds; other++) {
                int far = ways.far[now.cells[other]];
                if (other != h && far != NONE && far <= n) {
                    bits |= 1 << other;
                }
            }
        }
        return bits;
    }

    public int stands(int at, int h, int day) {
        if (!land.hasCell(at) || !isNumber(h) || !isDay(day)) {
            return NONE;
        }
        return land.canStand(at, h, land.weatherOn(WATER, day)) ? 1 : 0;
    }

    public int steps(int from, int to, int h, int day) {
        if (!areSuch(from, to, h, day)) {
            return NONE;
        }
        return ways.stepsBetween(from, to, h, land.weatherOn(WATER, day));
    }

    public int risk(int from, int to, int h, int day) {
        if (!areSuch(from, to, h, day)) {
            return NONE;
        }
        return ways.leastRisk(from, to, h, day);
    }

    public int way(int i) {
        return i >= 0 && i < walkedCells ? walked[i] : NONE;
    }

    public int ladders(int from, int to, int h, int day) {
        if (!areSuch(from, to, h, day)) {
            return NONE;
        }
        return heights.stepsByLadders(from, to, h, land.weatherOn(WATER, day));
    }

    public int write(int from, int to, int h, int day) {
        if (!areSuch(from, to, h, day)) {
            return NONE;
        }
        // From the end, so that the distances tell at each CELL which STEPS come nearer.
        int length = ways.stepsBetween(to, from, h, land.weatherOn(WATER, day));
        if (length == NONE) {
            return NONE;
        }
        int at = from;
        for (int i = 0; i < length; i++) {
            int direction = ways.nearer(at);
            text[i] = LETTERS.charAt(direction);
            at = land.neighbour(at, direction);
        }
        textLength = length;
        return length;
    }

    public int byteAt(int i) {
        return i >= 0 && i < textLength ? text[i] : NONE;
    }

    public int passes(int from, int to, int day, int what) {
        if (!areSuch(from, to, 0, day) || what < 0 || what > 2) {
            return NONE;
        }
        heights.passFrom(from, land.weatherOn(WATER, day));
        int many = 0;
        int least = NONE;
        int greatest = NONE;
        for (int h = 0; h <= MOST_NUMBER; h++) {
            if (heights.passesWith(to, h)) {
                many++;
                least = least == NONE ? h : least;
                greatest = h;
            }
        }
        if (what == 0) {
            return many;
        }
        return what == 1 ? least : greatest;
    }

    public int reach(int from, int h, int day) {
        if (!areSuch(from, from, h, day)) {
            return NONE;
        }
        return ways.reachFrom(from, h, land.weatherOn(WATER, day));
    }

    public int widest() {
        int best = NONE;
        int most = NONE;
        for (int h = 0; h < land.herds; h++) {
            int cells = ways.reachFrom(now.cells[h], stiltsOf(h), waterToday());
            if (cells > most) {
                most = cells;
                best = h;
            }
        }
        return best;
    }

    public int who(int from, int to) {
        if (!areSuch(from, to, 0, now.day)) {
            return NONE;
        }
        heights.passFrom(from, waterToday());
        int bits = 0;
        for (int h = 0; h < land.herds; h++) {
            if (heights.passesWith(to, stiltsOf(h))) {
                bits |= 1 << h;
            }
        }
        return bits;
    }

    public int low(int h, int to) {
        if (!isHerd(h) || !land.hasCell(to)) {
            return NONE;
        }
        heights.passFrom(now.cells[h], waterToday());
        int heads = now.heads[h];
        for (int sold = 0; sold <= heads; sold++) {
            if (heights.passesWith(to, land.stiltsFor(heads - sold))) {
                return sold;
            }
        }
        return NONE;
    }

    public int high(int h, int to) {
        if (!isHerd(h) || !land.hasCell(to)) {
            return NONE;
        }
        heights.passFrom(now.cells[h], waterToday());
        int heads = now.heads[h];
        for (int bought = 0; heads + bought <= MOST_NUMBER; bought++) {
            if (heights.passesWith(to, land.stiltsFor(heads + bought))) {
                return bought;
            }
        }
        return NONE;
    }

    // ---- rain

    public int cut(int from, int h, int day, int n) {
        if (!areSuch(from, from, h, day) || !isNumber(n)) {
            return NONE;
        }
        int water = land.weatherOn(WATER, day);
        // RAIN only takes CELLS away, so what is left then is a part of what there is now.
        return ways.reachFrom(from, h, water) - ways.reachFrom(from, h, water + n);
    }

    public int drowns(int from, int to, int h, int day) {
        if (!areSuch(from, to, h, day)) {
            return NONE;
        }
        int water = land.weatherOn(WATER, day);
        int passing = 0;
        int drowned = MOST_NUMBER;
        if (ways.stepsBetween(from, to, h, water) == NONE
            || ways.stepsBetween(from, to, h, water + drowned) != NONE) {
            return NONE;
        }
        // More RAIN never opens a WAY, so the least that shuts it can be halved down to.
        for (int i = 0; i < MOST_NUMBER && drowned - passing > 1; i++) {
            int middle = (passing + drowned) / 2;
            if (ways.stepsBetween(from, to, h, water + middle) == NONE) {
                drowned = middle;
            } else {
                passing = middle;
            }
        }
        return drowned;
    }

    public int dry(int from, int to, int h) {
        if (!areSuch(from, to, h, now.day)) {
            return NONE;
        }
        int tried = NONE;
        for (int day = now.day; day < DAYS; day++) {
            int water = land.weatherOn(WATER, day);
            if (water != tried && ways.stepsBetween(from, to, h, water) != NONE) {
                return day;
            }
            tried = water;
        }
        return NONE;
    }

    // ---- signals

    public int sees(int h) {
        return isHerd(h) ? watch.seenBy(h) : NONE;
    }

    public int saw(int at, int inches) {
        if (!land.hasCell(at) || !isNumber(inches)) {
            return NONE;
        }
        return herdsOn(at) | watch.whoSee(at, land.ground[at] + inches);
    }

    public int handed(int from, int to) {
        return isHerd(from) && isHerd(to) ? watch.seeingsBetween(from, to) : NONE;
    }

    public int fires() {
        return watch.fewestFires();
    }

    // ---- the wolf, walks, holes, seats

    public int wolf(int what) {
        if (now.wolfCell == NONE) {
            return NONE;
        }
        switch (what) {
            case 0:
                return now.wolfCell;
            case 1:
                return land.wolfDepth;
            case 2:
                return now.taken;
            default:
                return NONE;
        }
    }

    public int lost(int h, int n) {
        if (!isHerd(h) || !isNight(n) || now.wolfCell == NONE) {
            return NONE;
        }
        acts.begin();
        acts.hunt(n);
        return now.heads[h] - acts.trial.heads[h];
    }

    public int holes() {
        int many = tape.length / 3;
        boolean asTold = tape.length % 3 == 0 && many >= 1 && many <= MOST_HOLES && holesAreOnCells();
        int bits = 0;
        for (int h = 0; asTold && h < land.herds; h++) {
            if (leavesHoles(stiltsOf(h))) {
                bits |= 1 << h;
            }
        }
        tape.length = 0;
        return asTold ? bits : NONE;
    }

    public int seats(int inches) {
        return isNumber(inches) ? wall.ordersBy(inches) : NONE;
    }

    public int seat(int i) {
        return i >= 0 && i < wall.seated ? wall.order[i] : NONE;
    }

    public int walk(int from, int to, int h, int seed) {
        if (!areSuch(from, to, h, now.day) || !ways.layWay(from, to, h, now.day)) {
            return NONE;
        }
        walkedCells = ways.laidSteps + 1;
        System.arraycopy(ways.laid, 0, walked, 0, walkedCells);
        return ways.fallOf(seed);
    }

    public int falls(int from, int to, int h, int n, int seed) {
        if (!areSuch(from, to, h, now.day) || n < 1 || n > MOST_WALKS
            || !ways.layWay(from, to, h, now.day)) {
            return NONE;
        }
        int fallen = 0;
        for (int i = 0; i < n; i++) {
            if (ways.fallOf(seed + i) != 0) {
                fallen++;
            }
        }
        return fallen;
    }

    // ---- acts

    public int go(int h, int to) {
        if (!isHerd(h) || !land.hasCell(to)) {
            return NONE;
        }
        acts.begin();
        return settled(acts.move(h, to));
    }

    public int trade(int h, int n, int buys) {
        if (!isHerd(h) || n < 1 || n > MOST_NUMBER || buys < 0 || buys > 1) {
            return NONE;
        }
        acts.begin();
        return settled(buys == 1 ? acts.buy(h, n) : acts.sell(h, n));
    }

    public int day() {
        acts.begin();
        return settled(acts.dawn()) == 0 ? now.day : NONE;
    }

    public int night(int n) {
        if (!isNight(n)) {
            return NONE;
        }
        int before = now.taken;
        acts.begin();
        return settled(acts.hunt(n)) == 0 ? now.taken - before : NONE;
    }

    public int undo() {
        return acts.takeBack();
    }

    public int judge(int lives) {
        if (lives < 0 || lives > 1) {
            return -2;
        }
        acts.begin();
        int line = acts.follow(here.plan);
        // A PLAN of which no LINE was done is no ACT done: there would be nothing to undo.
        if (lives == 1 && acts.verdict[LINES_DONE] > 0) {
            acts.settle();
        }
        return line;
    }

    public int judged(int what) {
        return acts.hasVerdict && what >= 0 && what < VERDICTS ? acts.verdict[what] : NONE;
    }

    public boolean image(int k) {
        if (k < 0 || k >= IMAGES) {
            return false;
        }
        kept[k].copyFrom(here);
        kept[k].used = true;
        return true;
    }

    public boolean restore(int k) {
        if (k < 0 || k >= IMAGES || !kept[k].used) {
            return false;
        }
        here.copyFrom(kept[k]);
        acts.forget();
        return true;
    }

    // ---- what several calls share

    /** An ACT that is not WRONG becomes so; the answer is handed on. */
    private int settled(int wrong) {
        if (wrong == 0) {
            acts.settle();
        }
        return wrong;
    }

    private boolean isHerd(int h) {
        return h >= 0 && h < land.herds;
    }

    private static boolean isDay(int day) {
        return day >= 0 && day < DAYS;
    }

    private static boolean isNumber(int n) {
        return n >= 0 && n <= MOST_NUMBER;
    }

    private static boolean isNight(int rounds) {
        return rounds >= 1 && rounds <= MOST_ROUNDS;
    }

    private boolean areSuch(int from, int to, int h, int day) {
        return land.hasCell(from) && land.hasCell(to) && isNumber(h) && isDay(day);
    }

    private int waterToday() {
        return land.weatherOn(WATER, now.day);
    }

    private int stiltsOf(int h) {
        return land.stiltsFor(now.heads[h]);
    }

    private int herdsOn(int at) {
        int bits = 0;
        for (int h = 0; h < land.herds; h++) {
            if (now.cells[h] == at) {
                bits |= 1 << h;
            }
        }
        return bits;
    }

    private boolean holesAreOnCells() {
        for (int i = 0; i + 2 < tape.length; i += 3) {
            if (tape.bytes[i] >= land.columns || tape.bytes[i + 1] >= land.rows) {
                return false;
            }
        }
        return true;
    }

    /** Asked only of a tape whose HOLES are all on CELLS. */
    private boolean leavesHoles(int h) {
        int water = waterToday();
        for (int i = 0; i + 2 < tape.length; i += 3) {
            int at = SIDE * tape.bytes[i + 1] + tape.bytes[i];
            if (!land.canStand(at, h, water) || tape.bytes[i + 2] != land.holeOf(at, h)) {
                return false;
            }
        }
        return true;
    }

    // ---- classes

    /** The bytes fed, and the TOKENS read along them. */
    private static final class Tape {
        final int[] bytes = new int[TAPE_BYTES];
        int length;
        private int limit;
        private int next;
        /** The TOKEN read last: where it begins, its kind, and its number or its word as a number. */
        int place;
        int kind;
        int value;

        void putNumber(int number) {
            for (int shift = 24; shift >= 0; shift -= 8) {
                if (length < TAPE_BYTES) {
                    bytes[length] = (number >>> shift) & 255;
                    length++;
                }
            }
        }

        void beginText(int most) {
            limit = most;
            next = 0;
        }

        void readToken() {
            while (next < length && (bytes[next] == ' ' || bytes[next] == '\n')) {
                next++;
            }
            value = 0;
            if (length > limit && next >= limit) {
                place = limit;
                kind = NO_TOKEN;
                return;
            }
            place = next;
            if (next >= length) {
                kind = TEXT_END;
            } else if (bytes[next] == ';') {
                next++;
                kind = SEMICOLON;
            } else {
                readRun();
            }
        }

        private void readRun() {
            int letters = 0;
            int digits = 0;
            int number = 0;
            int word = 0;
            boolean goesOn = true;
            while (goesOn && next < length) {
                int sign = bytes[next];
                if (sign >= 'a' && sign <= 'z') {
                    letters++;
                    word = word * LETTER_BASE + sign - BEFORE_A;
                } else if (sign >= '0' && sign <= '9') {
                    digits++;
                    number = number * 10 + sign - '0';
                } else {
                    goesOn = false;
                }
                next += goesOn ? 1 : 0;
            }
            kind = NO_TOKEN;
            if (digits == 0 && letters >= 1 && letters <= MOST_LETTERS) {
                kind = WORD;
                value = word;
            } else if (letters == 0 && digits >= 1 && digits <= MOST_DIGITS) {
                kind = NUMBER;
                value = number;
            }
        }
    }

    /** What a MOOR's text tells. */
    private static final class Moor {
        final int[] ground = new int[CELLS];
        /** By sort and CELL: its N, NONE where there is no such thing. */
        final int[] thing = new int[SORTS * CELLS];
        final int[] things = new int[SORTS];
        /** By sort and DAY: as told, NONE where it is not. */
        final int[] weather = new int[WEATHERS * DAYS];
        final int[] names = new int[HERDS];
        final int[] homes = new int[HERDS];
        final int[] flocks = new int[HERDS];
        int lines;
        int columns;
        int rows;
        int each;
        int most;
        int wood;
        int herds;
        int wolfHome;
        int wolfDepth;
        boolean lawTold;
        boolean woodTold;

        Moor() {
            empty();
        }

        void empty() {
            Arrays.fill(thing, NONE);
            Arrays.fill(things, 0);
            Arrays.fill(weather, NONE);
            lines = 0;
            columns = 0;
            rows = 0;
            each = 1;
            most = MOST_NUMBER;
            wood = 0;
            herds = 0;
            wolfHome = NONE;
            wolfDepth = 0;
            lawTold = false;
            woodTold = false;
        }

        void copyFrom(Moor other) {
            System.arraycopy(other.ground, 0, ground, 0, CELLS);
            System.arraycopy(other.thing, 0, thing, 0, SORTS * CELLS);
            System.arraycopy(other.things, 0, things, 0, SORTS);
            System.arraycopy(other.weather, 0, weather, 0, WEATHERS * DAYS);
            System.arraycopy(other.names, 0, names, 0, HERDS);
            System.arraycopy(other.homes, 0, homes, 0, HERDS);
            System.arraycopy(other.flocks, 0, flocks, 0, HERDS);
            lines = other.lines;
            columns = other.columns;
            rows = other.rows;
            each = other.each;
            most = other.most;
            wood = other.wood;
            herds = other.herds;
            wolfHome = other.wolfHome;
            wolfDepth = other.wolfDepth;
            lawTold = other.lawTold;
            woodTold = other.woodTold;
        }

        /** All CELLS have lower numbers than this; those between that are none are never come to. */
        int span() {
            return SIDE * rows;
        }

        boolean hasCell(int at) {
            return at >= 0 && at % SIDE < columns && at / SIDE < rows;
        }

        int herdNamed(int name) {
            for (int h = 0; h < herds; h++) {
                if (names[h] == name) {
                    return h;
                }
            }
            return NONE;
        }

        int weatherOn(int sort, int day) {
            for (int d = day; d >= 0; d--) {
                int told = weather[sort * DAYS + d];
                if (told != NONE) {
                    return told;
                }
            }
            return 0;
        }

        int stiltsFor(int heads) {
            int h = each < 1 ? heads : heads / each;
            return h < most ? h : most;
        }

        int timberFor(int h) {
            return h == 0 ? 0 : 2 * h + wood;
        }

        int depthOf(int at, int water) {
            return water > ground[at] ? water - ground[at] : 0;
        }

        boolean canStand(int at, int h, int water) {
            int door = thing[DOOR * CELLS + at];
            int mud = thing[MUD * CELLS + at];
            return water - ground[at] <= h && (door == NONE || door >= h) && (mud == NONE || mud <= h);
        }

        boolean hasLadder(int at) {
            return thing[LADDER * CELLS + at] != NONE;
        }

        int holeOf(int at, int h) {
            int mud = thing[MUD * CELLS + at];
            return h / 5 + 3 + (mud == NONE ? 0 : mud / 2);
        }

        /** The CELL north, east, south or west (0 to 3) of one; NONE beyond the edge. */
        int neighbour(int at, int direction) {
            int x = at % SIDE;
            int y = at / SIDE;
            switch (direction) {
                case 0:
                    return y > 0 ? at - SIDE : NONE;
                case 1:
                    return x + 1 < columns ? at + 1 : NONE;
                case 2:
                    return y + 1 < rows ? at + SIDE : NONE;
                default:
                    return x > 0 ? at - 1 : NONE;
            }
        }
    }

    /** What ACTS change: the DAY, the HERDS, the wolf. */
    private static final class Scene {
        int day;
        final int[] cells = new int[HERDS];
        final int[] heads = new int[HERDS];
        int wolfCell = NONE;
        int taken;

        void beginOn(Moor land) {
            day = 0;
            System.arraycopy(land.homes, 0, cells, 0, HERDS);
            System.arraycopy(land.flocks, 0, heads, 0, HERDS);
            wolfCell = land.wolfHome;
            taken = 0;
        }

        void copyFrom(Scene other) {
            day = other.day;
            System.arraycopy(other.cells, 0, cells, 0, HERDS);
            System.arraycopy(other.heads, 0, heads, 0, HERDS);
            wolfCell = other.wolfCell;
            taken = other.taken;
        }

        int headsOfAll(int herds) {
            int all = 0;
            for (int h = 0; h < herds; h++) {
                all += heads[h];
            }
            return all;
        }
    }

    /** The LINES of a PLAN: each one's word, its HERD, and its CELL or N. */
    private static final class Plan {
        int lines;
        final int[] words = new int[PLAN_LINES];
        final int[] herds = new int[PLAN_LINES];
        final int[] amounts = new int[PLAN_LINES];

        void copyFrom(Plan other) {
            lines = other.lines;
            System.arraycopy(other.words, 0, words, 0, PLAN_LINES);
            System.arraycopy(other.herds, 0, herds, 0, PLAN_LINES);
            System.arraycopy(other.amounts, 0, amounts, 0, PLAN_LINES);
        }
    }

    /** All that image() keeps. */
    private static final class Image {
        final Moor land = new Moor();
        final Scene scene = new Scene();
        final Plan plan = new Plan();
        boolean used;

        void copyFrom(Image other) {
            land.copyFrom(other.land);
            scene.copyFrom(other.scene);
            plan.copyFrom(other.plan);
        }
    }

    /** Reads MOORS and PLANS. A FAULT is always at the TOKEN read last. */
    private static final class Reader {
        private final Tape tape;
        private final int[] words = new int[WORD_COUNT];
        int fault;

        Reader(Tape tape) {
            this.tape = tape;
            int index = 0;
            for (int i = 0; i < WORDS.length() && index < WORD_COUNT; i++) {
                char sign = WORDS.charAt(i);
                if (sign == ' ') {
                    index++;
                } else {
                    words[index] = words[index] * LETTER_BASE + sign - BEFORE_A;
                }
            }
        }

        /** How many LINES, or -1 less the place of a FAULT. */
        int readMoor(Moor land) {
            fault = 0;
            land.empty();
            tape.beginText(MOOR_BYTES);
            for (int i = 0; i <= MOOR_BYTES; i++) {
                tape.readToken();
                if (tape.kind == TEXT_END) {
                    return land.lines;
                }
                if (!readMoorLine(land)) {
                    break;
                }
                land.lines++;
            }
            return -1 - tape.place;
        }

        int readPlan(Plan plan, Moor land) {
            fault = 0;
            plan.lines = 0;
            tape.beginText(PLAN_BYTES);
            for (int i = 0; i <= PLAN_BYTES; i++) {
                tape.readToken();
                if (tape.kind == TEXT_END) {
                    return plan.lines;
                }
                if (!readPlanLine(plan, land)) {
                    break;
                }
                plan.lines++;
            }
            return -1 - tape.place;
        }

        private boolean fail(int kind) {
            fault = kind;
            return false;
        }

        /** Which of the WORDS told the TOKEN is; NONE for any other. */
        private int wordRead() {
            for (int i = 0; tape.kind == WORD && i < WORD_COUNT; i++) {
                if (words[i] == tape.value) {
                    return i;
                }
            }
            return NONE;
        }

        private boolean readNumber(int least, int most) {
            tape.readToken();
            if (tape.kind != NUMBER) {
                return fail(CANNOT_COME);
            }
            return tape.value >= least && tape.value <= most || fail(NOT_AS_TOLD);
        }

        /** A CELL, its Y the TOKEN read last; NONE behind a FAULT. */
        private int readCell(Moor land) {
            if (!readNumber(0, land.columns - 1)) {
                return NONE;
            }
            int x = tape.value;
            return readNumber(0, land.rows - 1) ? SIDE * tape.value + x : NONE;
        }

        private boolean readName() {
            tape.readToken();
            return tape.kind == WORD && wordRead() == NONE || fail(CANNOT_COME);
        }

        private boolean readLineEnd() {
            tape.readToken();
            return tape.kind == SEMICOLON || fail(CANNOT_COME);
        }

        private boolean readMoorLine(Moor land) {
            int word = wordRead();
            switch (word) {
                case ROW:
                    return readRow(land);
                case LAW:
                    return readLaw(land);
                case TIMBER:
                    return readWood(land);
                case WATER_WORD:
                case WIND_WORD:
                case FOG_WORD:
                    return readWeather(land, word - WATER_WORD);
                case DOOR_WORD:
                case MUD_WORD:
                case LADDER_WORD:
                    return readThing(land, word - DOOR_WORD);
                case HERD:
                    return readHerd(land);
                case WOLF:
                    return readWolf(land);
                default:
                    return fail(CANNOT_COME);
            }
        }

        private boolean readRow(Moor land) {
            if (land.lines > land.rows) {
                return fail(TOLD_AGAIN);
            }
            if (land.rows >= SIDE) {
                return fail(TOO_MANY);
            }
            int least = land.rows == 0 ? LEAST_COLUMNS : land.columns;
            int most = land.rows == 0 ? SIDE : land.columns;
            for (int n = 0; n <= most; n++) {
                tape.readToken();
                if (tape.kind == SEMICOLON && n > 0) {
                    land.columns = n >= least ? n : land.columns;
                    land.rows += n >= least ? 1 : 0;
                    return n >= least || fail(TOO_MANY);
                }
                if (tape.kind != NUMBER) {
                    return fail(CANNOT_COME);
                }
                if (n < most) {
                    land.ground[SIDE * land.rows + n] = tape.value;
                }
            }
            return fail(TOO_MANY);
        }

        private boolean readLaw(Moor land) {
            if (land.lawTold) {
                return fail(TOLD_AGAIN);
            }
            land.lawTold = true;
            if (!readNumber(1, MOST_NUMBER)) {
                return false;
            }
            land.each = tape.value;
            if (!readNumber(0, MOST_NUMBER)) {
                return false;
            }
            land.most = tape.value;
            return readLineEnd();
        }

        private boolean readWood(Moor land) {
            if (land.woodTold) {
                return fail(TOLD_AGAIN);
            }
            land.woodTold = true;
            if (!readNumber(0, MOST_NUMBER)) {
                return false;
            }
            land.wood = tape.value;
            return readLineEnd();
        }

        private boolean readWeather(Moor land, int sort) {
            if (!readNumber(0, DAYS - 1)) {
                return false;
            }
            int place = sort * DAYS + tape.value;
            if (land.weather[place] != NONE) {
                return fail(TOLD_AGAIN);
            }
            if (!readNumber(0, MOST_NUMBER)) {
                return false;
            }
            land.weather[place] = tape.value;
            return readLineEnd();
        }

        private boolean readThing(Moor land, int sort) {
            if (land.things[sort] >= THINGS) {
                return fail(TOO_MANY);
            }
            int at = readCell(land);
            if (at == NONE) {
                return false;
            }
            int place = sort * CELLS + at;
            if (land.thing[place] != NONE) {
                return fail(TOLD_AGAIN);
            }
            if (sort != LADDER && !readNumber(0, MOST_NUMBER)) {
                return false;
            }
            land.thing[place] = sort == LADDER ? 0 : tape.value;
            land.things[sort]++;
            return readLineEnd();
        }

        private boolean readHerd(Moor land) {
            if (land.herds >= HERDS) {
                return fail(TOO_MANY);
            }
            if (!readName()) {
                return false;
            }
            int name = tape.value;
            if (land.herdNamed(name) != NONE) {
                return fail(TOLD_AGAIN);
            }
            int at = readCell(land);
            if (at == NONE || !readNumber(0, MOST_NUMBER)) {
                return false;
            }
            land.names[land.herds] = name;
            land.homes[land.herds] = at;
            land.flocks[land.herds] = tape.value;
            land.herds++;
            return readLineEnd();
        }

        private boolean readWolf(Moor land) {
            if (land.wolfHome != NONE) {
                return fail(TOLD_AGAIN);
            }
            int at = readCell(land);
            if (at == NONE || !readNumber(0, MOST_NUMBER)) {
                return false;
            }
            land.wolfHome = at;
            land.wolfDepth = tape.value;
            return readLineEnd();
        }

        private boolean readPlanLine(Plan plan, Moor land) {
            int word = wordRead();
            if (word < GO) {
                return fail(CANNOT_COME);
            }
            if (plan.lines >= PLAN_LINES) {
                return fail(TOO_MANY);
            }
            int herd = NONE;
            if (word == GO || word == SELL || word == BUY) {
                herd = readKnownHerd(land);
                if (herd == NONE) {
                    return false;
                }
            }
            int amount = 0;
            if (word != DAY) {
                amount = word == GO ? readCell(land) : readAmount(word == NIGHT ? MOST_ROUNDS : MOST_NUMBER);
            }
            if (amount == NONE) {
                return false;
            }
            plan.words[plan.lines] = word;
            plan.herds[plan.lines] = herd;
            plan.amounts[plan.lines] = amount;
            return readLineEnd();
        }

        private int readKnownHerd(Moor land) {
            if (!readName()) {
                return NONE;
            }
            int herd = land.herdNamed(tape.value);
            if (herd == NONE) {
                fail(TOLD_AGAIN);
            }
            return herd;
        }

        private int readAmount(int most) {
            return readNumber(1, most) ? tape.value : NONE;
        }
    }

    /** Ways of one height, or of the wolf, over the CELLS that are open to it. */
    private static final class Ways {
        private final Moor land;
        private final boolean[] open = new boolean[CELLS];
        /** STEPS from where the latest flood began; NONE where it did not come. */
        final int[] far = new int[CELLS];
        private final int[] queue = new int[CELLS];
        private final int[] costs = new int[CELLS];
        private final boolean[] closed = new boolean[CELLS];
        /** The WAY laid last: its CELLS and the RISK of each STEP. */
        final int[] laid = new int[CELLS];
        private final int[] risks = new int[CELLS];
        int laidSteps;

        Ways(Moor land) {
            this.land = land;
        }

        private void openFor(int h, int water) {
            for (int at = 0; at < land.span(); at++) {
                open[at] = land.canStand(at, h, water);
            }
        }

        void openForWolf(int water) {
            for (int at = 0; at < land.span(); at++) {
                open[at] = land.depthOf(at, water) <= land.wolfDepth;
            }
        }

        /** How many CELLS it comes to, the first one too, which may be shut. */
        int floodFrom(int from) {
            Arrays.fill(far, NONE);
            far[from] = 0;
            queue[0] = from;
            int tail = 1;
            for (int head = 0; head < tail && head < CELLS; head++) {
                int at = queue[head];
                for (int direction = 0; direction < DIRECTIONS; direction++) {
                    int next = land.neighbour(at, direction);
                    if (next != NONE && open[next] && far[next] == NONE && tail < CELLS) {
                        far[next] = far[at] + 1;
                        queue[tail] = next;
                        tail++;
                    }
                }
            }
            return tail;
        }

        int reachFrom(int from, int h, int water) {
            openFor(h, water);
            return open[from] ? floodFrom(from) : 0;
        }

        int stepsBetween(int from, int to, int h, int water) {
            return reachFrom(from, h, water) > 0 ? far[to] : NONE;
        }

        /** The first direction by which the STEPS of the latest flood become fewest. */
        int nearer(int at) {
            int best = 0;
            int fewest = FAR_OFF;
            for (int direction = 0; direction < DIRECTIONS; direction++) {
                int next = land.neighbour(at, direction);
                if (next != NONE && far[next] != NONE && far[next] < fewest) {
                    fewest = far[next];
                    best = direction;
                }
            }
            return best;
        }

        private int riskOf(int at, int next, int h, int wind) {
            return wind + Math.abs(land.ground[at] - land.ground[next]) * h / 10;
        }

        int leastRisk(int from, int to, int h, int day) {
            openFor(h, land.weatherOn(WATER, day));
            if (!open[from] || !open[to]) {
                return NONE;
            }
            costFrom(to, h, land.weatherOn(WIND, day));
            return costs[from] == FAR_OFF ? NONE : costs[from] / RISK_WEIGHT;
        }

        /** The cost of each open CELL: least RISK to the one given, and of such fewest STEPS. */
        private void costFrom(int to, int h, int wind) {
            for (int at = 0; at < land.span(); at++) {
                costs[at] = FAR_OFF;
                closed[at] = !open[at];
            }
            costs[to] = 0;
            int at = to;
            for (int round = 0; round < CELLS && at != NONE; round++) {
                closed[at] = true;
                for (int direction = 0; direction < DIRECTIONS; direction++) {
                    int next = land.neighbour(at, direction);
                    if (next != NONE && !closed[next]) {
                        int cost = costs[at] + riskOf(at, next, h, wind) * RISK_WEIGHT + 1;
                        costs[next] = Math.min(costs[next], cost);
                    }
                }
                at = cheapest();
            }
        }

        private int cheapest() {
            int best = NONE;
            int least = FAR_OFF;
            for (int at = 0; at < land.span(); at++) {
                if (!closed[at] && costs[at] < least) {
                    least = costs[at];
                    best = at;
                }
            }
            return best;
        }

        /** Lays the WAY of a WALK: false, and what was laid is void, if there is none. */
        boolean layWay(int from, int to, int h, int day) {
            laidSteps = 0;
            if (leastRisk(from, to, h, day) == NONE) {
                return false;
            }
            int wind = land.weatherOn(WIND, day);
            int at = from;
            laid[0] = from;
            for (int i = 0; i + 1 < CELLS && at != to; i++) {
                int next = cheaper(at, h, wind);
                risks[i] = riskOf(at, next, h, wind);
                laid[i + 1] = next;
                laidSteps = i + 1;
                at = next;
            }
            return true;
        }

        /** The first neighbour on a WAY of least cost; the CELL itself at the end of it. */
        private int cheaper(int at, int h, int wind) {
            for (int direction = 0; direction < DIRECTIONS; direction++) {
                int next = land.neighbour(at, direction);
                if (next != NONE && costs[next] != FAR_OFF
                    && costs[at] == costs[next] + riskOf(at, next, h, wind) * RISK_WEIGHT + 1) {
                    return next;
                }
            }
            return at;
        }

        /** The STEP, from 1, at which one falls on the WAY laid; 0 for none. */
        int fallOf(int seed) {
            int x = seed;
            for (int i = 0; i < laidSteps; i++) {
                x = x * 1103515245 + 12345;
                if ((x >>> 8) % 100 < risks[i]) {
                    return i + 1;
                }
            }
            return 0;
        }
    }

    /** Ways of all heights at once: each CELL has a set of heights, as 100 bits in two longs. */
    private static final class Heights {
        private final Moor land;
        private final long[] standing = new long[2 * CELLS];
        private final long[] seen = new long[2 * CELLS];
        private final long[] fresh = new long[2 * CELLS];
        private final long[] coming = new long[2 * CELLS];
        private final int[] freshCells = new int[CELLS];
        private final int[] comingCells = new int[CELLS];
        private int freshMany;
        private int comingMany;

        Heights(Moor land) {
            this.land = land;
        }

        private static boolean has(long[] sets, int at, int h) {
            return (sets[2 * at + h / BITS] >>> (h % BITS) & 1) == 1;
        }

        /** Those of the 64 heights from a first one on that are from least to most. */
        private static long between(int least, int most, int first) {
            int low = Math.max(least - first, 0);
            int high = Math.min(most - first, BITS - 1);
            return low > high ? 0 : (-1L << low) & (-1L >>> (BITS - 1 - high));
        }

        private void prepare(int water) {
            for (int at = 0; at < land.span(); at++) {
                int door = land.thing[DOOR * CELLS + at];
                int least = Math.max(land.depthOf(at, water), land.thing[MUD * CELLS + at]);
                int most = door == NONE ? MOST_NUMBER : door;
                standing[2 * at] = between(least, most, 0);
                standing[2 * at + 1] = between(least, most, BITS);
            }
            Arrays.fill(seen, 0L);
            Arrays.fill(coming, 0L);
            freshMany = 0;
            comingMany = 0;
        }

        /** Finds with which heights one comes from a CELL to each; passesWith() tells. */
        void passFrom(int from, int water) {
            prepare(water);
            come(from, standing[2 * from], standing[2 * from + 1]);
            arrive(false);
            for (int round = 0; round < CELLS * CELLS && freshMany > 0; round++) {
                stepOn();
                arrive(false);
            }
        }

        boolean passesWith(int to, int h) {
            return has(seen, to, h);
        }

        int stepsByLadders(int from, int to, int h, int water) {
            prepare(water);
            if (!has(standing, from, h)) {
                return NONE;
            }
            come(from, h < BITS ? 1L << h : 0L, h < BITS ? 0L : 1L << (h - BITS));
            arrive(true);
            for (int far = 0; far < CELLS * CELLS && freshMany > 0; far++) {
                if ((seen[2 * to] | seen[2 * to + 1]) != 0) {
                    return far;
                }
                stepOn();
                arrive(true);
            }
            return NONE;
        }

        private void stepOn() {
            for (int i = 0; i < freshMany; i++) {
                int at = freshCells[i];
                for (int direction = 0; direction < DIRECTIONS; direction++) {
                    int next = land.neighbour(at, direction);
                    if (next != NONE) {
                        come(next, fresh[2 * at], fresh[2 * at + 1]);
                    }
                }
            }
        }

        /** Of the heights given those come to the CELL that stand there and are new there. */
        private void come(int at, long low, long high) {
            long newLow = low & standing[2 * at] & ~seen[2 * at];
            long newHigh = high & standing[2 * at + 1] & ~seen[2 * at + 1];
            if ((newLow | newHigh) == 0) {
                return;
            }
            if ((coming[2 * at] | coming[2 * at + 1]) == 0 && comingMany < CELLS) {
                comingCells[comingMany] = at;
                comingMany++;
            }
            coming[2 * at] |= newLow;
            coming[2 * at + 1] |= newHigh;
        }

        /** All that are coming are there now, by ladders with any heights that stand there. */
        private void arrive(boolean byLadders) {
            for (int i = 0; i < comingMany; i++) {
                int at = comingCells[i];
                boolean any = byLadders && land.hasLadder(at);
                for (int half = 2 * at; half <= 2 * at + 1; half++) {
                    fresh[half] = any ? standing[half] & ~seen[half] : coming[half];
                    seen[half] |= fresh[half];
                    coming[half] = 0;
                }
                freshCells[i] = at;
            }
            freshMany = comingMany;
            comingMany = 0;
        }
    }

    /** Who SEES whom today, and signals handed on. */
    private static final class Watch {
        private final Moor land;
        private final Scene now;

        Watch(Moor land, Scene now) {
            this.land = land;
            this.now = now;
        }

        int eyeOf(int h) {
            return land.ground[now.cells[h]] + land.stiltsFor(now.heads[h]);
        }

        int seenBy(int h) {
            return whoSee(now.cells[h], eyeOf(h));
        }

        /** HERDS on other CELLS that SEE an EYE of so many inches on a CELL, as bits. */
        int whoSee(int at, int eye) {
            int fog = land.weatherOn(FOG, now.day);
            int bits = 0;
            for (int h = 0; h < land.herds && eye > fog; h++) {
                int other = eyeOf(h);
                if (other > fog && isClear(at, now.cells[h], Math.min(eye, other))) {
                    bits |= 1 << h;
                }
            }
            return bits;
        }

        /** Unlike CELLS in one row, column or slant, and all ground between lower than the EYE. */
        private boolean isClear(int from, int to, int eye) {
            int across = to % SIDE - from % SIDE;
            int down = to / SIDE - from / SIDE;
            int far = Math.max(Math.abs(across), Math.abs(down));
            boolean straight = across == 0 || down == 0 || Math.abs(across) == Math.abs(down);
            if (far == 0 || !straight) {
                return false;
            }
            int stride = Integer.signum(down) * SIDE + Integer.signum(across);
            for (int i = 1; i < far; i++) {
                if (land.ground[from + i * stride] >= eye) {
                    return false;
                }
            }
            return true;
        }

        /** These HERDS and all that SEE one of them. */
        private int handOn(int bits) {
            int all = bits;
            for (int h = 0; h < land.herds; h++) {
                if ((bits >>> h & 1) == 1) {
                    all |= seenBy(h);
                }
            }
            return all;
        }

        int seeingsBetween(int from, int to) {
            int bits = 1 << from;
            int before = 0;
            for (int many = 0; many <= HERDS && bits != before; many++) {
                if ((bits >>> to & 1) == 1) {
                    return many;
                }
                before = bits;
                bits = handOn(bits);
            }
            return NONE;
        }

        /** SEEING goes both ways, so each group needs one fire, and its first HERD makes the least set. */
        int fewestFires() {
            int lit = 0;
            int told = 0;
            for (int h = 0; h < land.herds; h++) {
                if ((told >>> h & 1) == 0) {
                    lit |= 1 << h;
                    told |= groupOf(h);
                }
            }
            return lit;
        }

        /** All HERDS to which a signal of one is HANDED ON. */
        private int groupOf(int h) {
            int bits = 1 << h;
            int before = 0;
            for (int i = 0; i < HERDS && bits != before; i++) {
                before = bits;
                bits = handOn(bits);
            }
            return bits;
        }
    }

    /** ACTS are tried on a copy of the scene, which replaces it once they are known not to be WRONG. */
    private static final class Acts {
        private final Moor land;
        private final Ways ways;
        private final Scene now;
        final Scene trial = new Scene();
        private final Scene[] past = new Scene[UNDOS];
        private int done;
        private int undoable;
        private int stepsGone;
        final int[] verdict = new int[VERDICTS];
        boolean hasVerdict;

        Acts(Moor land, Ways ways, Scene now) {
            this.land = land;
            this.ways = ways;
            this.now = now;
            for (int i = 0; i < UNDOS; i++) {
                past[i] = new Scene();
            }
        }

        void begin() {
            trial.copyFrom(now);
            stepsGone = 0;
        }

        void settle() {
            past[done % UNDOS].copyFrom(now);
            done++;
            undoable = Math.min(undoable + 1, UNDOS);
            now.copyFrom(trial);
        }

        void forget() {
            done = 0;
            undoable = 0;
        }

        int takeBack() {
            if (undoable == 0 || done == 0) {
                return NONE;
            }
            done--;
            undoable--;
            now.copyFrom(past[done % UNDOS]);
            return undoable;
        }

        int move(int h, int to) {
            int water = land.weatherOn(WATER, trial.day);
            int steps = ways.stepsBetween(trial.cells[h], to, land.stiltsFor(trial.heads[h]), water);
            if (steps == NONE) {
                return NO_WAY;
            }
            trial.cells[h] = to;
            stepsGone += steps;
            return 0;
        }

        int sell(int h, int n) {
            if (trial.heads[h] < n) {
                return TOO_FEW_HEADS;
            }
            trial.heads[h] -= n;
            return 0;
        }

        int buy(int h, int n) {
            if (trial.heads[h] + n > MOST_NUMBER) {
                return TOO_MANY_HEADS;
            }
            trial.heads[h] += n;
            return 0;
        }

        int dawn() {
            if (trial.day >= DAYS - 1) {
                return LAST_DAY;
            }
            trial.day++;
            return 0;
        }

        int hunt(int rounds) {
            if (trial.wolfCell == NONE) {
                return NO_WOLF;
            }
            ways.openForWolf(land.weatherOn(WATER, trial.day));
            boolean hunts = true;
            // A wolf that can come to none stays for the rest of the NIGHT: nothing else moves in it.
            for (int i = 0; i < rounds && hunts; i++) {
                int prey = preyAtHand();
                if (prey != NONE) {
                    trial.heads[prey]--;
                    trial.taken++;
                } else {
                    hunts = prowl();
                }
            }
            return 0;
        }

        /** The least HERD with HEADS on the wolf's CELL. */
        private int preyAtHand() {
            for (int h = 0; h < land.herds; h++) {
                if (trial.cells[h] == trial.wolfCell && trial.heads[h] > 0) {
                    return h;
                }
            }
            return NONE;
        }

        /** One STEP to the nearest HERD with HEADS: false, if it can come to none. */
        private boolean prowl() {
            ways.floodFrom(trial.wolfCell);
            int prey = NONE;
            int least = FAR_OFF;
            for (int h = 0; h < land.herds; h++) {
                int far = ways.far[trial.cells[h]];
                if (trial.heads[h] > 0 && far != NONE && far < least) {
                    least = far;
                    prey = h;
                }
            }
            if (prey == NONE) {
                return false;
            }
            ways.floodFrom(trial.cells[prey]);
            int next = land.neighbour(trial.wolfCell, ways.nearer(trial.wolfCell));
            trial.wolfCell = next == NONE ? trial.wolfCell : next;
            return true;
        }

        /** Does a PLAN on the copy: the LINE that is WRONG, or NONE. */
        int follow(Plan plan) {
            int wrong = 0;
            int line = 0;
            for (int i = 0; i < plan.lines && wrong == 0; i++) {
                wrong = followLine(plan, i);
                line += wrong == 0 ? 1 : 0;
            }
            hasVerdict = true;
            verdict[WHY] = wrong;
            verdict[LINES_DONE] = line;
            verdict[END_DAY] = trial.day;
            verdict[END_HEADS] = trial.headsOfAll(land.herds);
            verdict[STEPS_GONE] = stepsGone;
            verdict[HEADS_TAKEN] = trial.taken - now.taken;
            return wrong == 0 ? NONE : line;
        }

        private int followLine(Plan plan, int i) {
            switch (plan.words[i]) {
                case GO:
                    return move(plan.herds[i], plan.amounts[i]);
                case SELL:
                    return sell(plan.herds[i], plan.amounts[i]);
                case BUY:
                    return buy(plan.herds[i], plan.amounts[i]);
                case DAY:
                    return dawn();
                default:
                    return hunt(plan.amounts[i]);
            }
        }
    }

    /** Orders of all HERDS on a wall. */
    private static final class Wall {
        private final Moor land;
        private final Scene now;
        /** By the set of those that sit and by the last of them: in how many ways the rest can sit. */
        private final int[] rests = new int[(1 << HERDS) * HERDS];
        private final int[] neighbours = new int[HERDS];
        final int[] order = new int[HERDS];
        int seated;

        Wall(Moor land, Scene now) {
            this.land = land;
            this.now = now;
        }

        int ordersBy(int inches) {
            int all = (1 << land.herds) - 1;
            findNeighbours(inches);
            for (int sitting = all; sitting > 0; sitting--) {
                for (int last = 0; last < land.herds; last++) {
                    rests[sitting * HERDS + last] = sitting == all ? 1 : restsBehind(sitting, neighbours[last]);
                }
            }
            // No HERDS sit in one order, the empty one.
            int orders = land.herds == 0 ? 1 : restsBehind(0, all);
            if (orders > 0) {
                seatFirst(all);
            }
            return orders;
        }

        private void findNeighbours(int inches) {
            for (int h = 0; h < land.herds; h++) {
                int bits = 0;
                for (int other = 0; other < land.herds; other++) {
                    int apart = land.stiltsFor(now.heads[h]) - land.stiltsFor(now.heads[other]);
                    bits |= Math.abs(apart) <= inches ? 1 << other : 0;
                }
                neighbours[h] = bits;
            }
        }

        /** In how many ways those go on who do not sit yet, one of the allowed first. */
        private int restsBehind(int sitting, int allowed) {
            int many = 0;
            for (int next = 0; next < land.herds; next++) {
                if (((allowed & ~sitting) >>> next & 1) == 1) {
                    many += rests[(sitting | 1 << next) * HERDS + next];
                }
            }
            return many;
        }

        private void seatFirst(int all) {
            int sitting = 0;
            int allowed = all;
            for (int place = 0; place < land.herds; place++) {
                int next = leastNext(sitting, allowed);
                order[place] = next;
                sitting |= 1 << next;
                allowed = neighbours[next];
            }
            seated = land.herds;
        }

        private int leastNext(int sitting, int allowed) {
            for (int next = 0; next < land.herds; next++) {
                if (((allowed & ~sitting) >>> next & 1) == 1
                    && rests[(sitting | 1 << next) * HERDS + next] > 0) {
                    return next;
                }
            }
            return 0;
        }
    }
}
