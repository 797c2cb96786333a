/**
 * The boundary cases that the document names of the wolf, of ACTS, of PLANS judged and of images, sentence by sentence,
 * each in a test of its own: what ==== 3 and ==== 4 tell of them, and promises 26 to 31, 34 and 46 to 50.
 */
public final class ActEdgesTest {
    private static final Desk DESK = new Desk();
    /** Three columns, two rows, two HERDS. */
    private static final String PLAIN = "row 5 5 5;row 5 5 5;herd a 0 0 1;herd b 2 1 2;wolf 0 0 1;";
    private static final String SQUARE = "row 5 5 5;row 5 5 5;row 5 5 5;";
    private static final int[] NO_WHATS = {-1, Integer.MIN_VALUE, Integer.MAX_VALUE};

    private static StiltHerds plain() {
        return Desk.on(PLAIN);
    }

    private static void dueCounts(StiltHerds x, int... due) {
        for (int what = 0; what < due.length; what++) {
            DESK.due("count(" + what + ")", x.count(what), due[what]);
        }
    }

    private static void dueJudged(StiltHerds x, int... due) {
        for (int what = 0; what < due.length; what++) {
            DESK.due("judged(" + what + ")", x.judged(what), due[what]);
        }
    }

    /** Where the wolf of a MOOR is behind a NIGHT of one round. */
    private static int wolfBehindOneRound(String moor) {
        StiltHerds x = Desk.on(moor);
        x.night(1);
        return x.wolf(0);
    }

    private static void days(StiltHerds x, int n) {
        for (int i = 0; i < n; i++) {
            x.day();
        }
    }

    // ---- ==== 3: the wolf

    @Sentence("The WOLF goes where DEPTH is its N or less")
    private static void wolfGoesByDepth() {
        for (int n = 1; n <= 3; n++) {
            StiltHerds x = Desk.on("row 5 3 5;water 0 5;herd a 2 0 9;wolf 0 0 " + n + ";");
            DESK.due("through DEPTH 2 with N " + n, x.night(3), n >= 2 ? 1 : 0);
            DESK.due("its CELL", x.wolf(0), n >= 2 ? 2 : 0);
            StiltHerds y = Desk.on("row 5 3;water 0 5;herd a 1 0 9;wolf 0 0 " + n + ";");
            DESK.due("to a HERD in DEPTH 2 with N " + n, y.night(2), n >= 2 ? 1 : 0);
        }
        DESK.due("N is 0, DEPTH is 0", Desk.on("row 5 5;water 0 5;herd a 1 0 9;wolf 0 0 0;").night(2), 1);
        DESK.due("N is 0, DEPTH is 1", Desk.on("row 5 4;water 0 5;herd a 1 0 9;wolf 0 0 0;").night(2), 0);
        DESK.due("N is 99, DEPTH is 99", Desk.on("row 9 0;water 0 99;herd a 1 0 9;wolf 0 0 99;").night(2), 1);
        DESK.due("N is 98, DEPTH is 99", Desk.on("row 9 0;water 0 99;herd a 1 0 9;wolf 0 0 98;").night(2), 0);
        DESK.due("doors and mud are nothing to it",
            Desk.on("row 5 5 5;door 1 0 0;mud 1 0 99;herd a 2 0 9;wolf 0 0 0;").night(3), 1);
        StiltHerds today = Desk.on("row 5 3 5;water 1 5;herd a 2 0 9;wolf 0 0 1;");
        DESK.due("by WATER of DAY 0", today.lost(0, 3), 1);
        today.day();
        DESK.due("by WATER of DAY 1", today.lost(0, 3), 0);
    }

    @Sentence("The WOLF goes where DEPTH is its N or less: of the CELL that it leaves nothing is told")
    private static void wolfCaughtByTheWater() {
        StiltHerds x = Desk.on("row 4 9;water 1 6;herd a 1 0 9;wolf 0 0 1;");
        x.day();
        DESK.due("it leaves its CELL", x.night(2), 1);
        DESK.due("its CELL", x.wolf(0), 1);
        StiltHerds y = Desk.on("row 4 9;water 1 6;herd a 0 0 9;wolf 0 0 1;");
        y.day();
        DESK.due("it takes HEADS there", y.night(2), 2);
    }

    @Sentence("in each round it goes one STEP of the shortest way")
    private static void oneStepARound() {
        StiltHerds x = Desk.on("row 5 5 5 5;herd a 3 0 9;wolf 0 0 0;");
        for (int at = 1; at <= 3; at++) {
            DESK.due("night(1)", x.night(1), 0);
            DESK.due("its CELL", x.wolf(0), at);
        }
        DESK.due("a round more", x.night(1), 1);
        // The pool lies on the straight way: east it is 2 STEPS, round it 4, and it begins with a STEP back.
        String pool = "row 5 5 5 5;row 5 5 0 5;water 0 5;herd a 3 1 9;wolf 1 1 ";
        DESK.due("round the pool", wolfBehindOneRound(pool + "0;"), 1);
        DESK.due("round the pool it is 4 STEPS", Desk.on(pool + "0;").lost(0, 5), 1);
        DESK.due("no fewer", Desk.on(pool + "0;").lost(0, 4), 0);
        DESK.due("through the pool", wolfBehindOneRound(pool + "5;"), 12);
    }

    @Sentence("of such ways the first STEP in the order north, east, south, west")
    private static void wolfStepsInOrder() {
        String[] prey = {"1 0", "2 1", "1 2", "0 1", "2 0", "0 0", "2 2", "0 2"};
        int[] due = {1, 12, 21, 10, 1, 1, 12, 21};
        for (int i = 0; i < prey.length; i++) {
            String moor = SQUARE + "wolf 1 1 0;herd a " + prey[i] + " 9;";
            DESK.due("its first STEP to " + prey[i], wolfBehindOneRound(moor), due[i]);
        }
        String shut = "row 5 5 5;row 5 5 0;row 5 5 5;water 0 5;wolf 1 1 0;herd a 2 2 9;";
        DESK.due("east is shut: south", wolfBehindOneRound(shut), 21);
        String ring = "row 5 5 5;row 5 0 5;row 5 5 5;water 0 5;wolf 0 1 0;herd a 2 1 9;";
        DESK.due("round a pool, north ahead of south", wolfBehindOneRound(ring), 0);
    }

    @Sentence("to the nearest HERD")
    private static void nearestHerd() {
        DESK.due("the nearer one", wolfBehindOneRound("row 5 5 5 5;wolf 1 0 0;herd a 3 0 9;herd b 0 0 9;"), 0);
        // West it is one CELL farther off by the air, but the pool makes east the longer way.
        String pool = "row 5 5 5 5 0 5;row 5 5 5 5 0 5;row 5 5 5 5 5 5;water 0 5;wolf 3 0 0;herd a 5 0 9;herd b 0 0 9;";
        DESK.due("nearer by the way it goes", wolfBehindOneRound(pool), 2);
    }

    @Sentence("HERD with HEADS")
    private static void herdWithHeads() {
        String moor = "row 5 5 5 5;wolf 1 0 0;herd a 0 0 0;herd b 1 0 0;herd c 3 0 ";
        DESK.due("past those without HEADS", wolfBehindOneRound(moor + "1;"), 2);
        DESK.due("none has HEADS", wolfBehindOneRound(moor + "0;"), 1);
        StiltHerds x = Desk.on("row 5 5 5;wolf 1 0 0;herd a 1 0 2;herd b 2 0 3;");
        DESK.due("from one that it has eaten up to the next", x.night(5), 4);
        DESK.due("HEADS of the first", x.herd(0, 1), 0);
        DESK.due("HEADS of the next", x.herd(1, 1), 1);
    }

    @Sentence("HERD that it can come to")
    private static void herdThatItCanComeTo() {
        String moor = "row 5 5 0 5 5;row 5 5 5 5 5;water 0 5;wolf 1 0 0;herd a 2 0 9;herd b 4 0 9;";
        DESK.due("not the one in the pool beside it", wolfBehindOneRound(moor), 11);
        DESK.due("the one behind it", Desk.on(moor).lost(1, 6), 1);
        DESK.due("the one in the pool loses none", Desk.on(moor).lost(0, 20), 0);
    }

    @Sentence("of like near ones the least")
    private static void leastOfLikeNear() {
        DESK.due("HERD 0 west, HERD 1 east", wolfBehindOneRound("row 5 5 5;wolf 1 0 0;herd a 0 0 9;herd b 2 0 9;"), 0);
        DESK.due("HERD 0 east, HERD 1 west", wolfBehindOneRound("row 5 5 5;wolf 1 0 0;herd a 2 0 9;herd b 0 0 9;"), 2);
        StiltHerds x = Desk.on("row 5 5;wolf 0 0 0;herd a 0 0 2;herd b 0 0 3;");
        DESK.due("of those on its CELL", x.night(3), 3);
        DESK.due("HERD 0 has none left", x.herd(0, 1), 0);
        DESK.due("HERD 1 has lost one", x.herd(1, 1), 2);
    }

    @Sentence("if it is on that HERD's CELL already, it stays and takes a HEAD")
    private static void onItsCellAlready() {
        StiltHerds x = Desk.on("row 5 5;wolf 1 0 0;herd a 0 0 9;herd b 1 0 2;");
        DESK.due("night(1)", x.night(1), 1);
        DESK.due("it stays", x.wolf(0), 1);
        DESK.due("HEADS", x.herd(1, 1), 1);
        StiltHerds y = Desk.on("row 5 5;wolf 0 0 0;herd a 1 0 9;");
        DESK.due("in the round in which it comes it takes none", y.night(1), 0);
        DESK.due("in the next it does", y.night(1), 1);
    }

    @Sentence("if there is none, it stays")
    private static void thereIsNone() {
        String[] moors = {"row 5 5;wolf 1 0 0;", "row 5 5;wolf 1 0 0;herd a 0 0 0;", "row 5 5;wolf 1 0 0;herd a 1 0 0;",
            "row 4 5;water 0 5;wolf 1 0 0;herd a 0 0 9;"};
        for (String moor : moors) {
            StiltHerds x = Desk.on(moor);
            DESK.due("night(20) of " + moor, x.night(20), 0);
            DESK.due("its CELL in " + moor, x.wolf(0), 1);
            DESK.due("it took none in " + moor, x.wolf(2), 0);
            DESK.due("such a NIGHT is done, too", x.undo(), 0);
        }
        StringBuilder eight = new StringBuilder();
        for (char name = 'a'; name <= 'h'; name++) {
            eight.append("herd ").append(name).append(" 0 0 0;");
        }
        StiltHerds all = Desk.on("row 5 5;wolf 1 0 0;" + eight);
        DESK.due("eight HERDS without HEADS", all.night(20), 0);
        DESK.due("its CELL", all.wolf(0), 1);
        StiltHerds old = Desk.on("row 5 5;wolf 1 0 0;herd a 0 0 0;herd b 1 0 9;");
        Desk.moor(old, "row 5 5;wolf 1 0 0;herd a 0 0 0;");
        DESK.due("a HERD of the MOOR ahead of this one is none", old.night(3), 0);
    }

    @Sentence("A NIGHT on the widest MOOR")
    private static void nightOnTheWidest() {
        StiltHerds x = Desk.on("row 5 5 5 5 5 5 5 5 5 5;".repeat(10) + "wolf 0 0 0;herd a 9 9 9;");
        DESK.due("18 STEPS off", x.lost(0, 18), 0);
        DESK.due("then it takes", x.night(20), 2);
        DESK.due("its CELL", x.wolf(0), 99);
    }

    // ---- ==== 4: ACTS

    @Sentence("GO: 1 there is no WAY today for the HERD's STILTS from its CELL")
    private static void goIsWrong() {
        StiltHerds x = Desk.on("row 5 1 5;row 5 1 5;water 0 5;water 1 6;law 2 99;herd a 0 0 8;herd b 0 0 7;herd c 1 1 8;");
        DESK.due("STILTS as DEPTH", x.go(0, 2), 0);
        DESK.due("STILTS an inch less", x.go(1, 2), 1);
        DESK.due("it stays", x.herd(1, 0), 0);
        DESK.due("to its own CELL", x.go(1, 0), 0);
        x.day();
        DESK.due("no WAY today", x.go(0, 0), 1);
        DESK.due("one that does not STAND on its CELL", x.go(2, 0), 1);
        DESK.due("not even to its own", x.go(2, 11), 1);
    }

    @Sentence("SELL: 2 it has not so many HEADS")
    private static void sellIsWrong() {
        StiltHerds x = Desk.on("row 5 5;herd a 0 0 9;herd b 0 0 0;");
        DESK.due("one more than it has", x.trade(0, 10, 0), 2);
        DESK.due("HEADS stay", x.herd(0, 1), 9);
        DESK.due("all that it has", x.trade(0, 9, 0), 0);
        DESK.due("HEADS", x.herd(0, 1), 0);
        DESK.due("it has none", x.trade(1, 1, 0), 2);
    }

    @Sentence("BUY: 3 it would have more than 99")
    private static void buyIsWrong() {
        StiltHerds x = Desk.on("row 5 5;herd a 0 0 90;herd b 0 0 0;");
        DESK.due("100 then", x.trade(0, 10, 1), 3);
        DESK.due("HEADS stay", x.herd(0, 1), 90);
        DESK.due("99 then", x.trade(0, 9, 1), 0);
        DESK.due("HEADS", x.herd(0, 1), 99);
        DESK.due("it has 99", x.trade(0, 1, 1), 3);
        DESK.due("from none to 99", x.trade(1, 99, 1), 0);
    }

    @Sentence("DAY: 4 it is 29")
    private static void dayIsWrong() {
        StiltHerds x = new StiltHerds();
        days(x, 28);
        DESK.due("it is 28", x.day(), 29);
        DESK.due("it is 29", x.day(), -1);
        DESK.due("it stays", x.count(7), 29);
        Desk.plan(x, "day;");
        DESK.due("LINE 0 of a PLAN", x.judge(0), 0);
        DESK.due("why", x.judged(0), 4);
    }

    @Sentence("NIGHT: 5 there is no wolf")
    private static void nightIsWrong() {
        StiltHerds x = Desk.on("row 5 5;herd a 0 0 9;");
        DESK.due("night()", x.night(1), -1);
        Desk.plan(x, "night 1;");
        DESK.due("LINE 0 of a PLAN", x.judge(0), 0);
        DESK.due("why", x.judged(0), 5);
        StiltHerds y = Desk.on("row 5 5;herd a 0 0 9;wolf 0 0 0;");
        Desk.plan(y, "night 1;");
        DESK.due("there is one", y.judge(0), -1);
    }

    @Sentence("ACTS, each WRONG .., else done: a WRONG one is not done")
    private static void wrongActsAreNotDone() {
        StiltHerds x = Desk.on("row 5 5;water 0 5;water 29 6;herd a 0 0 0;herd b 0 0 99;");
        days(x, 29);
        x.go(0, 1);
        x.trade(0, 1, 0);
        x.trade(1, 1, 1);
        x.day();
        x.night(1);
        DESK.due("CELL", x.herd(0, 0), 0);
        DESK.due("HEADS", x.flock(), 99);
        DESK.due("DAY", x.count(7), 29);
        DESK.due("undo() undoes the last day() that was done", x.undo(), 7);
        DESK.due("DAY behind it", x.count(7), 28);
    }

    @Sentence("A new MOOR: DAY 0, HERDS and wolf as told, no PLAN")
    private static void newMoor() {
        StiltHerds x = Desk.on("row 5 5;herd a 0 0 9;wolf 0 0 0;");
        Desk.plan(x, "day;");
        x.night(3);
        x.trade(0, 1, 0);
        x.go(0, 1);
        x.day();
        DESK.due("the same MOOR again", Desk.moor(x, "row 5 5;herd a 0 0 9;wolf 0 0 0;"), 3);
        DESK.due("DAY", x.count(7), 0);
        DESK.due("CELL", x.herd(0, 0), 0);
        DESK.due("HEADS", x.herd(0, 1), 9);
        DESK.due("the wolf's CELL", x.wolf(0), 0);
        DESK.due("HEADS that it took", x.wolf(2), 0);
        DESK.due("no PLAN", x.count(8), 0);
        DESK.due("no LINE of it is done", x.judge(1), -1);
        DESK.due("DAY stays", x.count(7), 0);
        DESK.due("nothing of the old MOOR is undone", x.undo(), -1);
        Desk.moor(x, "row 5 5;");
        DESK.due("no wolf told", x.wolf(0), -1);
        DESK.due("no HERD told", x.count(6), 0);
        DESK.noHerd(x, 0, 0);
    }

    // ---- promises 26 to 31 and 34

    @Sentence("26: 0 its CELL, 1 its N, 2 HEADS that it took so far")
    private static void wolfTells() {
        StiltHerds x = Desk.on("row 5 5;row 5 5;herd a 0 1 9;wolf 1 1 7;");
        DESK.due("its CELL", x.wolf(0), 11);
        DESK.due("its N", x.wolf(1), 7);
        DESK.due("none so far", x.wolf(2), 0);
        x.night(2);
        DESK.due("its CELL", x.wolf(0), 10);
        DESK.due("one so far", x.wolf(2), 1);
        x.night(3);
        DESK.due("of both NIGHTS", x.wolf(2), 4);
        x.lost(0, 5);
        DESK.due("lost() takes none", x.wolf(2), 4);
    }

    @Sentence("26: NONE: there is none, another what")
    private static void wolfOfNone() {
        StiltHerds x = plain();
        DESK.refuses("wolf()", NO_WHATS, what -> x.wolf(what));
        DESK.due("wolf(3)", x.wolf(3), -1);
        StiltHerds none = Desk.on("row 5 5;herd a 0 0 9;");
        for (int what = -1; what <= 3; what++) {
            DESK.due("wolf() of a MOOR without one", none.wolf(what), -1);
            DESK.due("wolf() of no MOOR", new StiltHerds().wolf(what), -1);
        }
    }

    @Sentence("27: NONE: no such ones")
    private static void goOfNoSuch() {
        StiltHerds x = plain();
        DESK.refusesHerds("go() of HERD", h -> x.go(h, 0));
        DESK.refusesCells("go() to", at -> x.go(0, at));
        DESK.due("nothing was done", x.undo(), -1);
        DESK.due("the last ones are such", x.go(1, 12), 0);
        DESK.due("without a MOOR", new StiltHerds().go(0, 0), -1);
    }

    @Sentence("28: n (1 to 99)")
    private static void tradeOneTo99() {
        StiltHerds x = plain();
        for (int buys = 0; buys <= 1; buys++) {
            int sort = buys;
            DESK.refuses("trade()", new int[] {0, -1, 100, Integer.MIN_VALUE, Integer.MAX_VALUE}, n -> x.trade(0, n, sort));
        }
        DESK.due("nothing was done", x.undo(), -1);
        DESK.due("1 bought", x.trade(0, 1, 1), 0);
        DESK.due("1 sold", x.trade(0, 1, 0), 0);
        x.trade(0, 1, 0);
        DESK.due("99 bought", x.trade(0, 99, 1), 0);
        DESK.due("99 sold", x.trade(0, 99, 0), 0);
        DESK.due("99 is such a number, though WRONG", x.trade(0, 99, 0), 2);
        DESK.due("99 is such a number, though WRONG", x.trade(1, 99, 1), 3);
    }

    @Sentence("28: NONE: no such ones, another buys")
    private static void tradeOfNoSuch() {
        StiltHerds x = plain();
        DESK.refusesHerds("trade() of HERD", h -> x.trade(h, 1, 1));
        DESK.refuses("trade() by buys", new int[] {-1, 2, 3, Integer.MIN_VALUE, Integer.MAX_VALUE}, buys -> x.trade(0, 1, buys));
        DESK.due("HEADS stay", x.flock(), 3);
        DESK.due("nothing was done", x.undo(), -1);
        DESK.due("buys 1: bought", x.trade(1, 1, 1), 0);
        DESK.due("HEADS", x.herd(1, 1), 3);
        DESK.due("buys 0: sold", x.trade(1, 2, 0), 0);
        DESK.due("HEADS", x.herd(1, 1), 1);
    }

    @Sentence("29: The next DAY: its number; NONE: WRONG")
    private static void nextDay() {
        StiltHerds x = plain();
        for (int day = 1; day <= 29; day++) {
            DESK.due("day()", x.day(), day);
        }
        DESK.due("day() behind 29", x.day(), -1);
        DESK.due("day() behind 29 again", x.day(), -1);
        DESK.due("without a MOOR", new StiltHerds().day(), 1);
    }

    @Sentence("30: A NIGHT of n (1 to 20) rounds")
    private static void nightOneTo20() {
        StiltHerds x = Desk.on("row 5 5;herd a 0 0 99;wolf 0 0 0;");
        DESK.refuses("night()", new int[] {0, -1, 21, 22, Integer.MIN_VALUE, Integer.MAX_VALUE}, n -> x.night(n));
        DESK.due("nothing was done", x.undo(), -1);
        DESK.due("night(1)", x.night(1), 1);
        DESK.due("night(20)", x.night(20), 20);
        DESK.due("HEADS", x.herd(0, 1), 78);
    }

    @Sentence("30: how many HEADS the wolf took in it")
    private static void nightTakes() {
        StiltHerds x = Desk.on("row 5 5;herd a 0 0 3;herd b 1 0 5;wolf 0 0 0;");
        DESK.due("two", x.night(2), 2);
        DESK.due("of two HERDS, with a STEP between", x.night(4), 3);
        DESK.due("all that are left", x.night(20), 3);
        DESK.due("none is left", x.night(20), 0);
    }

    @Sentence("30: NONE: not as told, WRONG")
    private static void nightOfNone() {
        DESK.due("no wolf", Desk.on("row 5 5;herd a 0 0 9;").night(1), -1);
        DESK.due("no MOOR", new StiltHerds().night(1), -1);
        DESK.due("not as told", plain().night(0), -1);
    }

    @Sentence("31: The latest ACT done (go(), trade(), day(), night(), or a PLAN that was lived) is undone")
    private static void latestIsUndone() {
        StiltHerds x = Desk.on("row 5 5;herd a 1 0 9;wolf 0 0 0;");
        Desk.plan(x, "day;buy a 1;day;");
        x.go(0, 0);
        x.trade(0, 2, 0);
        x.day();
        x.night(4);
        x.judge(1);
        DESK.due("DAY behind all", x.count(7), 3);
        DESK.due("a PLAN at once", x.undo(), 4);
        DESK.due("DAY", x.count(7), 1);
        DESK.due("HEADS", x.herd(0, 1), 3);
        DESK.due("night()", x.undo(), 3);
        DESK.due("HEADS", x.herd(0, 1), 7);
        DESK.due("HEADS taken", x.wolf(2), 0);
        DESK.due("day()", x.undo(), 2);
        DESK.due("DAY", x.count(7), 0);
        DESK.due("trade()", x.undo(), 1);
        DESK.due("HEADS", x.herd(0, 1), 9);
        DESK.due("go()", x.undo(), 0);
        DESK.due("CELL", x.herd(0, 0), 1);
        DESK.due("the PLAN stays", x.count(8), 3);
        DESK.due("an undo() is not undone", x.undo(), -1);
    }

    @Sentence("31: how many more can be (8 at most are kept)")
    private static void eightAreKept() {
        StiltHerds x = new StiltHerds();
        days(x, 8);
        for (int left = 7; left >= 0; left--) {
            DESK.due("undo() of 8", x.undo(), left);
            DESK.due("DAY", x.count(7), left);
        }
        DESK.due("none is left", x.undo(), -1);
        days(x, 9);
        for (int left = 7; left >= 0; left--) {
            DESK.due("undo() of 9", x.undo(), left);
        }
        DESK.due("the ninth is not kept", x.undo(), -1);
        DESK.due("DAY behind the ninth", x.count(7), 1);
        days(x, 20);
        x.undo();
        x.undo();
        x.undo();
        days(x, 2);
        DESK.due("some undone, some done again", x.undo(), 6);
    }

    @Sentence("31: NONE: none is")
    private static void noneIsUndone() {
        StiltHerds x = plain();
        DESK.due("ahead of any ACT", x.undo(), -1);
        x.go(0, 30);
        x.trade(0, 2, 0);
        x.night(21);
        x.lost(0, 3);
        x.judge(0);
        x.judge(1);
        x.judge(2);
        x.walk(0, 1, 0, 1);
        x.image(0);
        Desk.plan(x, "day;");
        x.judge(0);
        DESK.due("behind what is no ACT done", x.undo(), -1);
        DESK.due("without a MOOR", new StiltHerds().undo(), -1);
    }

    @Sentence("31: a PLAN that was lived, of one LINE")
    private static void planOfOneLineIsUndone() {
        StiltHerds x = plain();
        Desk.plan(x, "day;");
        x.judge(1);
        DESK.due("undo()", x.undo(), 0);
        DESK.due("DAY", x.count(7), 0);
    }

    @Sentence("31: a PLAN that was lived as far as its first WRONG LINE")
    private static void partOfAPlanIsUndone() {
        StiltHerds x = plain();
        Desk.plan(x, "day;sell a 1;sell a 1;day;");
        DESK.due("LINE 2 is WRONG", x.judge(1), 2);
        DESK.due("undo()", x.undo(), 0);
        DESK.due("DAY", x.count(7), 0);
        DESK.due("HEADS", x.herd(0, 1), 1);
    }

    @Sentence("34: How many HEADS a HERD would lose")
    private static void wouldLose() {
        StiltHerds x = Desk.on("row 5 5;herd a 0 0 2;herd b 1 0 30;wolf 0 0 0;");
        DESK.due("in 1 round", x.lost(0, 1), 1);
        DESK.due("all it has", x.lost(0, 20), 2);
        DESK.due("another in 3", x.lost(1, 3), 0);
        DESK.due("another in 4", x.lost(1, 4), 1);
        DESK.due("another in 20", x.lost(1, 20), 17);
        DESK.due("HEADS stay", x.flock(), 32);
        DESK.due("the wolf stays", x.wolf(0), 0);
        DESK.due("no ACT was done", x.undo(), -1);
        x.night(1);
        DESK.due("from now on", x.lost(0, 20), 1);
    }

    @Sentence("34: n (1 to 20) rounds; NONE: no such ones, no wolf")
    private static void lostOfNone() {
        StiltHerds x = plain();
        DESK.refusesHerds("lost() of HERD", h -> x.lost(h, 1));
        DESK.refuses("lost() in", new int[] {0, -1, 21, Integer.MIN_VALUE, Integer.MAX_VALUE}, n -> x.lost(0, n));
        DESK.due("1 is one", x.lost(0, 1), 1);
        DESK.due("20 is one", x.lost(1, 20), 2);
        DESK.due("no wolf", Desk.on("row 5 5;herd a 0 0 9;").lost(0, 1), -1);
    }

    // ---- promises 46 and 47

    @Sentence("46: The PLAN is done, all staying as it is (lives 0)")
    private static void judgeOfZero() {
        StiltHerds x = Desk.on("row 5 5;herd a 1 0 9;wolf 0 0 0;");
        Desk.plan(x, "go a 0 0;night 2;day;buy a 1;");
        DESK.due("judge(0)", x.judge(0), -1);
        DESK.due("CELL", x.herd(0, 0), 1);
        DESK.due("HEADS", x.herd(0, 1), 9);
        DESK.due("DAY", x.count(7), 0);
        DESK.due("wolf", x.wolf(2), 0);
        DESK.due("PLAN", x.count(8), 4);
        DESK.due("nothing is undone", x.undo(), -1);
        dueJudged(x, 0, 4, 1, 8, 1, 2);
    }

    @Sentence("46: or as far as it is not WRONG (1)")
    private static void judgeOfOne() {
        StiltHerds x = Desk.on("row 5 5;herd a 1 0 9;wolf 0 0 0;");
        Desk.plan(x, "go a 0 0;night 2;day;buy a 93;day;");
        DESK.due("LINE 3 is WRONG", x.judge(1), 3);
        DESK.due("CELL", x.herd(0, 0), 0);
        DESK.due("HEADS", x.herd(0, 1), 7);
        DESK.due("DAY", x.count(7), 1);
        DESK.due("wolf", x.wolf(2), 2);
        DESK.due("the PLAN stays", x.count(8), 5);
        Desk.plan(x, "buy a 92;day;");
        DESK.due("none is WRONG", x.judge(1), -1);
        DESK.due("HEADS", x.herd(0, 1), 99);
        DESK.due("DAY", x.count(7), 2);
    }

    @Sentence("46: the LINE that is WRONG; NONE: none")
    private static void wrongLine() {
        StiltHerds x = Desk.on("row 5 5;herd a 1 0 9;");
        Desk.plan(x, "sell a 10;day;");
        DESK.due("the first", x.judge(0), 0);
        dueJudged(x, 2, 0, 0, 9, 0, 0);
        Desk.plan(x, "day;".repeat(29) + "sell a 10;");
        DESK.due("the last of 30", x.judge(0), 29);
        dueJudged(x, 2, 29, 29, 9, 0, 0);
        Desk.plan(x, "day;".repeat(29) + "sell a 9;");
        DESK.due("none of 30", x.judge(0), -1);
        dueJudged(x, 0, 30, 29, 0, 0, 0);
        Desk.plan(x, "sell a 9;sell a 1;buy a 99;buy a 1;");
        DESK.due("each LINE behind those ahead of it", x.judge(0), 1);
        x.plan();
        DESK.due("a PLAN of no LINES", x.judge(0), -1);
        dueJudged(x, 0, 0, 0, 9, 0, 0);
        DESK.due("no PLAN", new StiltHerds().judge(0), -1);
        DESK.due("no PLAN lived", new StiltHerds().judge(1), -1);
    }

    @Sentence("46: each LINE is done by its own HERD, CELL, DAY")
    private static void linesAreDoneAsTold() {
        StiltHerds x = Desk.on("row 5 1 5;row 5 5 5;water 0 3;water 1 6;herd ann 0 0 2;herd bob 2 0 5;");
        Desk.plan(x, "go ann 2 0;day;go ann 1 0;");
        DESK.due("WATER of the DAY then", x.judge(0), 2);
        dueJudged(x, 1, 2, 1, 7, 2, 0);
        Desk.plan(x, "day;go bob 0 0;sell bob 1;go bob 2 0;go bob 2 1;");
        DESK.due("STILTS of the HEADS then", x.judge(1), -1);
        DESK.due("CELL of bob", x.herd(1, 0), 12);
        DESK.due("CELL of ann", x.herd(0, 0), 0);
    }

    @Sentence("46: -2: another lives")
    private static void anotherLives() {
        StiltHerds x = plain();
        Desk.plan(x, "day;");
        for (int lives : new int[] {-2, -1, 2, 3, Integer.MIN_VALUE, Integer.MAX_VALUE}) {
            DESK.due("judge(" + lives + ")", x.judge(lives), -2);
        }
        DESK.due("nothing was done", x.count(7), 0);
        DESK.due("nothing was judged", x.judged(1), -1);
    }

    @Sentence("47: Of the latest judge() that was not -2")
    private static void latestJudge() {
        StiltHerds x = plain();
        Desk.plan(x, "day;day;");
        x.judge(0);
        DESK.due("of judge(0)", x.judged(2), 2);
        x.judge(2);
        DESK.due("judge(2) is not it", x.judged(2), 2);
        x.day();
        Desk.plan(x, "day;day;day;");
        DESK.due("other calls leave it", x.judged(1), 2);
        x.judge(1);
        DESK.due("of judge(1)", x.judged(2), 4);
        DESK.due("LINES of judge(1)", x.judged(1), 3);
        x.undo();
        DESK.due("undo() leaves it", x.judged(2), 4);
        Desk.moor(x, "row 5 5;");
        DESK.due("a new MOOR leaves it", x.judged(2), 4);
    }

    @Sentence("47: 0 why it was WRONG (0: it was not)")
    private static void whyWrong() {
        StiltHerds x = Desk.on("row 5 0;water 0 3;herd a 0 0 2;");
        String[] plans = {"go a 0 0;", "go a 1 0;", "sell a 3;", "buy a 98;", "day;".repeat(30), "night 20;"};
        for (int why = 0; why < plans.length; why++) {
            Desk.plan(x, plans[why]);
            x.judge(0);
            DESK.due("why " + plans[why], x.judged(0), why);
        }
    }

    @Sentence("47: 4 STEPS gone in all, 5 HEADS that the wolf took in it")
    private static void stepsAndHeadsOfThePlan() {
        StiltHerds x = Desk.on("row 5 5 5;row 5 5 0;water 0 5;herd a 0 0 9;herd b 2 0 0;wolf 0 1 0;");
        x.go(0, 2);
        x.go(0, 0);
        x.night(3);
        Desk.plan(x, "go a 2 0;go a 2 0;go b 0 1;night 4;go a 0 0;night 3;go b 2 1;");
        DESK.due("judge(0)", x.judge(0), 6);
        dueJudged(x, 1, 6, 0, 4, 2 + 0 + 3 + 2, 2 + 1);
    }

    @Sentence("47: NONE: another what, or ahead of any")
    private static void judgedOfNone() {
        StiltHerds x = plain();
        for (int what = 0; what < 6; what++) {
            DESK.due("ahead of any", x.judged(what), -1);
        }
        x.judge(5);
        DESK.due("ahead of any that was not -2", x.judged(0), -1);
        x.judge(0);
        dueJudged(x, 0, 0, 0, 3, 0, 0);
        DESK.refuses("judged()", NO_WHATS, what -> x.judged(what));
        DESK.due("judged(6)", x.judged(6), -1);
    }

    // ---- promises 48 to 50

    @Sentence("48: MOOR, DAY, HERDS, wolf and PLAN are kept in place k (0, 1)")
    private static void imagesKeepAll() {
        String text = "row 5 6;row 7 8;law 2 30;timber 4;water 0 6;wind 1 3;fog 2 4;door 0 0 9;mud 1 0 0;ladder 1 1;"
            + "herd ann 0 0 9;herd bob 1 1 8;wolf 0 0 7;";
        StiltHerds x = Desk.on(text);
        Desk.plan(x, "day;sell ann 1;");
        x.night(2);
        x.go(1, 10);
        x.day();
        DESK.due("image(0)", x.image(0), true);
        x.day();
        DESK.due("image(1)", x.image(1), true);
        Desk.moor(x, "row 1 1 1;herd cid 0 0 1;");
        x.restore(0);
        dueCounts(x, 2, 2, 2, 30, 1, 1, 2, 1, 2, 0, 1);
        int[] ground = {5, 6, 7, 8};
        for (int i = 0; i < 4; i++) {
            DESK.due("ground", x.cell(10 * (i / 2) + i % 2, 0), ground[i]);
        }
        DESK.due("door", x.cell(0, 2), 9);
        DESK.due("mud", x.cell(1, 3), 0);
        DESK.due("ladder", x.ladders(11, 11, 30, 0), 0);
        DESK.due("WATER", x.on(0, 0), 6);
        DESK.due("WIND", x.on(1, 1), 3);
        DESK.due("FOG", x.on(2, 2), 4);
        DESK.due("timber", x.herd(0, 3), 2 * 3 + 4);
        DESK.due("HEADS", x.herd(0, 1), 7);
        DESK.due("CELL", x.herd(1, 0), 10);
        DESK.due("the wolf's CELL", x.wolf(0), 0);
        DESK.due("its N", x.wolf(1), 7);
        DESK.due("HEADS that it took", x.wolf(2), 2);
        DESK.due("the PLAN", x.judge(0), -1);
        DESK.due("its DAY", x.judged(2), 2);
        DESK.due("NAMES", Desk.plan(x, "sell bob 1;"), 1);
        DESK.due("no other NAMES", Desk.plan(x, "sell cid 1;"), -1 - 5);
        x.restore(1);
        DESK.due("DAY of the other place", x.count(7), 2);
        DESK.due("PLAN of the other place", x.count(8), 2);
    }

    @Sentence("48: true; false: no such one")
    private static void imageOfNoSuch() {
        StiltHerds x = plain();
        for (int k : new int[] {-1, 2, 3, Integer.MIN_VALUE, Integer.MAX_VALUE}) {
            DESK.due("image(" + k + ")", x.image(k), false);
        }
        DESK.due("nothing is kept in 0", x.restore(0), false);
        DESK.due("nothing is kept in 1", x.restore(1), false);
        DESK.due("image(0)", x.image(0), true);
        DESK.due("image(1)", x.image(1), true);
        DESK.due("image(0) again", x.image(0), true);
        x.day();
        DESK.due("image() leaves what can be undone", x.image(0), true);
        DESK.due("undo()", x.undo(), 0);
    }

    @Sentence("48: an image is what was there when it was kept")
    private static void imagesStay() {
        StiltHerds x = plain();
        x.image(0);
        x.trade(0, 5, 1);
        Desk.plan(x, "day;");
        x.day();
        x.restore(0);
        DESK.due("HEADS", x.herd(0, 1), 1);
        DESK.due("PLAN", x.count(8), 0);
        DESK.due("DAY", x.count(7), 0);
        x.day();
        x.go(0, 2);
        x.restore(0);
        DESK.due("restored twice, DAY", x.count(7), 0);
        DESK.due("restored twice, CELL", x.herd(0, 0), 0);
        x.day();
        x.image(0);
        x.day();
        x.restore(0);
        DESK.due("kept anew", x.count(7), 1);
        StiltHerds none = new StiltHerds();
        none.image(1);
        Desk.moor(none, PLAIN);
        DESK.due("the empty MOOR is kept, too", none.restore(1), true);
        dueCounts(none, 0, 0, 1, 99, 0, 0, 0, 0, 0, 0, 0);
        DESK.due("without a wolf", none.wolf(0), -1);
        DESK.noCell(none, 0, 0);
    }

    @Sentence("49: the tape, and what other calls told last, stays")
    private static void restoreLeavesTheRest() {
        StiltHerds x = Desk.on("row 5 5 5;herd a 0 0 1;herd b 0 0 1;");
        x.image(0);
        Desk.plan(x, "day;");
        x.judge(0);
        x.write(0, 2, 1, 0);
        x.walk(2, 0, 1, 1);
        x.seats(5);
        Desk.moor(x, "row 5;");
        Desk.feed(x, "row 7 7;");
        DESK.due("restore()", x.restore(0), true);
        DESK.due("the tape", x.count(9), 8);
        DESK.due("fault()", x.fault(), 4);
        DESK.due("judged()", x.judged(1), 1);
        DESK.due("byteAt()", x.byteAt(1), 'e');
        DESK.due("way()", x.way(0), 2);
        DESK.due("seat()", x.seat(1), 1);
        DESK.due("the tape's bytes", x.moor(), 1);
        DESK.due("ground", x.cell(1, 0), 7);
    }

    @Sentence("49: nothing can be undone")
    private static void restoreUndoesNone() {
        StiltHerds x = plain();
        x.day();
        x.day();
        x.image(1);
        x.day();
        x.restore(1);
        DESK.due("undo()", x.undo(), -1);
        DESK.due("DAY", x.count(7), 2);
        x.day();
        DESK.due("undo() of an ACT behind it", x.undo(), 0);
        DESK.due("no more", x.undo(), -1);
    }

    @Sentence("49: false: no such one, or nothing is kept there")
    private static void restoreOfNone() {
        StiltHerds x = plain();
        x.day();
        DESK.due("nothing is kept in 0", x.restore(0), false);
        DESK.due("nothing is kept in 1", x.restore(1), false);
        x.image(1);
        x.day();
        DESK.due("still nothing in 0", x.restore(0), false);
        for (int k : new int[] {-1, 2, 3, Integer.MIN_VALUE, Integer.MAX_VALUE}) {
            DESK.due("restore(" + k + ")", x.restore(k), false);
        }
        DESK.due("all stays", x.count(7), 2);
        DESK.due("what can be undone, too", x.undo(), 1);
        DESK.due("restore(1)", x.restore(1), true);
    }

    @Sentence("50: columns, rows, EACH, MOST, doors, mud, HERDS, the DAY, LINES of the PLAN, bytes of the tape, ladders")
    private static void counts() {
        StiltHerds x = Desk.on("row 1 1 1;row 1 1 1;law 4 5;door 0 0 1;mud 0 0 1;mud 1 0 1;ladder 0 0;ladder 1 0;ladder 2 0;"
            + "herd a 0 0 1;herd b 0 0 1;herd c 0 0 1;herd d 0 0 1;");
        days(x, 9);
        Desk.plan(x, "day;day;day;day;day;day;");
        Desk.feed(x, "1234567");
        dueCounts(x, 3, 2, 4, 5, 1, 2, 4, 9, 6, 7, 3);
    }

    @Sentence("50: NONE for another what")
    private static void countOfNone() {
        StiltHerds x = plain();
        DESK.refuses("count()", NO_WHATS, what -> x.count(what));
        DESK.due("count(11)", x.count(11), -1);
    }

    public static void main(String[] args) throws ReflectiveOperationException {
        DESK.runEach(ActEdgesTest.class);
    }
}
