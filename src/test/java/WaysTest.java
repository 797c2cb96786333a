/** Promises 14 to 21, 32, 33 and 38 to 44: WAYS of all sorts, WALKS along them, and RAIN. */
public final class WaysTest {
    private static final Desk DESK = new Desk();

    private static String text(StiltHerds x) {
        StringBuilder out = new StringBuilder();
        for (int i = 0; x.byteAt(i) != -1; i++) {
            out.append((char) x.byteAt(i));
        }
        return out.toString();
    }

    private static void dueText(StiltHerds x, int from, int to, int h, String want) {
        DESK.due("write(" + from + ", " + to + ")", x.write(from, to, h, 0), want.length());
        DESK.due("the text is " + text(x) + ", due is " + want, text(x).equals(want), true);
    }

    private static void dueWay(StiltHerds x, int... cells) {
        for (int i = 0; i < cells.length; i++) {
            DESK.due("way(" + i + ")", x.way(i), cells[i]);
        }
        DESK.due("way() behind the last", x.way(cells.length), -1);
        DESK.due("way(-1)", x.way(-1), -1);
    }

    /** Promise 14. */
    private static void steps() {
        StiltHerds x = Desk.on("row 9 0 9;row 9 0 9;row 9 9 9;water 0 5;water 1 9;water 2 99;");
        DESK.due("steps round the pool", x.steps(0, 2, 4, 0), 6);
        DESK.due("steps through the pool", x.steps(0, 2, 5, 0), 2);
        DESK.due("steps on a deeper day", x.steps(0, 2, 5, 1), 6);
        DESK.due("steps to itself", x.steps(0, 0, 0, 0), 0);
        DESK.due("steps to itself where one does not STAND", x.steps(1, 1, 4, 0), -1);
        DESK.due("steps from where one does not STAND", x.steps(1, 0, 4, 0), -1);
        DESK.due("steps to where one does not STAND", x.steps(0, 1, 4, 0), -1);
        DESK.due("steps when all is flooded", x.steps(0, 2, 5, 2), -1);
        int[][] none = {{3, 0, 0, 0}, {0, 30, 0, 0}, {0, -1, 0, 0}, {0, 0, 100, 0}, {0, 0, -1, 0}, {0, 0, 0, 30}, {0, 0, 0, -1}};
        for (int[] a : none) {
            DESK.due("steps of no such ones", x.steps(a[0], a[1], a[2], a[3]), -1);
            DESK.due("risk of no such ones", x.risk(a[0], a[1], a[2], a[3]), -1);
            DESK.due("ladders of no such ones", x.ladders(a[0], a[1], a[2], a[3]), -1);
            DESK.due("write of no such ones", x.write(a[0], a[1], a[2], a[3]), -1);
            DESK.due("drowns of no such ones", x.drowns(a[0], a[1], a[2], a[3]), -1);
        }
    }

    /** Promise 15. */
    private static void risk() {
        StiltHerds x = Desk.on("row 1 9 1;row 1 4 1;row 1 1 1;wind 0 0;wind 1 2;wind 2 99;water 3 2;");
        DESK.due("risk round the hill", x.risk(0, 2, 10, 0), 0);
        DESK.due("risk of wind weighs the STEPS", x.risk(0, 2, 10, 1), 12);
        DESK.due("risk of one low STEP", x.risk(0, 11, 9, 0), 2);
        DESK.due("risk straight over", x.risk(0, 2, 10, 2), 99 * 2 + 16);
        DESK.due("risk of STILTS of none", x.risk(0, 2, 0, 1), 4);
        DESK.due("risk to itself", x.risk(0, 0, 9, 2), 0);
        DESK.due("risk where one does not STAND", x.risk(0, 0, 0, 3), -1);
        DESK.due("risk to where one does not STAND", x.risk(1, 0, 0, 3), -1);
        DESK.due("risk to itself where one STANDS", x.risk(1, 1, 0, 3), 0);
    }

    /** Promise 17. */
    private static void ladders() {
        // The door asks for 2 or less, the mud behind it for 5 or more.
        String moor = "row 5 5 5 5;row 5 5 5 5;door 1 0 2;door 1 1 2;mud 3 0 5;mud 3 1 5;";
        DESK.due("without a ladder", Desk.on(moor).ladders(0, 3, 2, 0), -1);
        StiltHerds x = Desk.on(moor + "ladder 2 1;water 1 9;");
        DESK.due("by a ladder", x.ladders(0, 3, 2, 0), 5);
        DESK.due("too high for the door", x.ladders(0, 3, 3, 0), -1);
        DESK.due("where one may end on the ladder", x.ladders(0, 12, 1, 0), 3);
        DESK.due("from the ladder itself", x.ladders(12, 3, 1, 0), 2);
        DESK.due("back by the ladder", x.ladders(3, 0, 9, 0), 5);
        DESK.due("to itself", x.ladders(0, 0, 9, 0), 0);
        DESK.due("where one does not STAND", x.ladders(0, 0, 3, 1), -1);
        StiltHerds y = Desk.on("row 5 5 5;mud 0 0 3;door 1 0 2;ladder 0 0;");
        DESK.due("one must STAND on the first ladder", y.ladders(0, 2, 2, 0), -1);
        DESK.due("only STILTS that STAND on the ladder", y.ladders(0, 2, 3, 0), -1);
        StiltHerds z = Desk.on("row 9 0 9;ladder 0 0;water 0 70;");
        DESK.due("STILTS above 63", z.ladders(0, 2, 61, 0), 2);
        StiltHerds w = Desk.on("row 9 0 9;water 0 70;ladder 2 0;");
        DESK.due("no ladder where one begins", w.ladders(0, 2, 61, 0), -1);
        DESK.due("STILTS of 70 from the first", w.ladders(0, 2, 70, 0), 2);
    }

    /** Promises 18 and 19. */
    private static void write() {
        StiltHerds x = Desk.on("row 5 5 5;row 5 5 5;row 5 5 5;door 1 1 3;water 1 9;");
        DESK.due("byteAt() ahead of any", x.byteAt(0), -1);
        dueText(x, 10, 12, 4, "nees");
        dueText(x, 10, 12, 3, "ee");
        dueText(x, 22, 0, 3, "nnww");
        dueText(x, 0, 22, 3, "eess");
        dueText(x, 2, 20, 3, "ssww");
        DESK.due("write() of none", x.write(0, 1, 3, 1), -1);
        DESK.due("the text made last stays", text(x).equals("ssww"), true);
        DESK.due("byteAt(-1)", x.byteAt(-1), -1);
        DESK.due("byteAt(4)", x.byteAt(4), -1);
        DESK.due("write() to itself", x.write(11, 11, 3, 0), 0);
        DESK.due("the empty text", x.byteAt(0), -1);
    }

    /** Promise 20. */
    private static void passes() {
        StiltHerds x = Desk.on("row 9 0 9;row 9 9 9;water 0 5;door 0 1 7;mud 2 1 2;door 2 1 70;water 1 80;");
        DESK.due("passes by both, how many", x.passes(0, 2, 0, 0), 98);
        DESK.due("passes by both, least", x.passes(0, 2, 0, 1), 2);
        DESK.due("passes by both, greatest", x.passes(0, 2, 0, 2), 99);
        DESK.due("passes by the door alone", x.passes(0, 10, 0, 0), 8);
        DESK.due("least by the door", x.passes(0, 10, 0, 1), 0);
        DESK.due("greatest by the door", x.passes(0, 10, 0, 2), 7);
        DESK.due("passes above 63", x.passes(0, 2, 1, 1), 80);
        DESK.due("passes above 63, how many", x.passes(0, 2, 1, 0), 20);
        DESK.due("passes with none, how many", x.passes(0, 12, 1, 0), 0);
        DESK.due("passes with none, least", x.passes(0, 12, 1, 1), -1);
        DESK.due("passes with none, greatest", x.passes(0, 12, 1, 2), -1);
        DESK.due("passes(.., 3)", x.passes(0, 2, 0, 3), -1);
        DESK.due("passes(.., -1)", x.passes(0, 2, 0, -1), -1);
        DESK.due("passes of no such CELL", x.passes(3, 2, 0, 0), -1);
        DESK.due("passes of no such CELL", x.passes(0, 23, 0, 0), -1);
        DESK.due("passes of no such DAY", x.passes(0, 2, 30, 0), -1);
    }

    /** Promises 21 and 41. */
    private static void reach() {
        StiltHerds x = Desk.on("row 9 0 9 9;water 0 5;herd a 0 0 4;herd b 3 0 4;herd c 0 0 5;herd d 0 0 9;water 1 20;");
        DESK.due("reach() of the west", x.reach(0, 4, 0), 1);
        DESK.due("reach() of the east", x.reach(3, 4, 0), 2);
        DESK.due("reach() of all", x.reach(0, 5, 0), 4);
        DESK.due("reach() where one does not STAND", x.reach(1, 4, 0), 0);
        DESK.due("reach() of no such CELL", x.reach(4, 4, 0), -1);
        DESK.due("reach() of no such h", x.reach(0, 100, 0), -1);
        DESK.due("reach() of no such DAY", x.reach(0, 4, -1), -1);
        DESK.due("widest()", x.widest(), 2);
        x.trade(2, 1, 0);
        DESK.due("widest() behind a sale", x.widest(), 3);
        x.day();
        DESK.due("widest() when none STANDS", x.widest(), 0);
        DESK.due("widest() without HERDS", Desk.on("row 1 1;").widest(), -1);
    }

    /** Promises 32 and 33. */
    private static void lowAndHigh() {
        StiltHerds x = Desk.on("row 9 9 9;door 1 0 3;mud 2 0 2;law 5 12;herd a 0 0 34;herd b 0 0 4;water 1 99;");
        DESK.due("low() for the door", x.low(0, 1), 15);
        DESK.due("low() for door and mud", x.low(0, 2), 15);
        DESK.due("low() to its own CELL", x.low(0, 0), 0);
        DESK.due("low() of none enough", x.low(1, 2), -1);
        DESK.due("low() of no need", x.low(1, 1), 0);
        DESK.due("high() for the mud", x.high(1, 2), 6);
        DESK.due("high() of none enough", x.high(0, 1), -1);
        DESK.due("high() of no need", x.high(1, 1), 0);
        DESK.due("low() of no HERD", x.low(2, 0), -1);
        DESK.due("low() of no CELL", x.low(0, 3), -1);
        DESK.due("high() of no HERD", x.high(-1, 0), -1);
        DESK.due("high() of no CELL", x.high(0, 10), -1);
        StiltHerds y = Desk.on("row 0 0;water 0 99;herd a 0 0 0;");
        DESK.due("high() of all 99", y.high(0, 1), 99);
        StiltHerds z = Desk.on("row 0 0;water 0 99;law 1 98;herd a 0 0 0;");
        DESK.due("high() beyond MOST", z.high(0, 1), -1);
        StiltHerds w = Desk.on("row 0 0;door 1 0 0;herd a 0 0 99;");
        DESK.due("low() of all 99", w.low(0, 1), 99);
    }

    /** Promises 38 to 40. */
    private static void rain() {
        StiltHerds x = Desk.on("row 9 4 9 6;water 0 5;water 1 3;water 4 2;water 6 99;");
        DESK.due("cut() of none", x.cut(0, 2, 0, 1), 0);
        DESK.due("cut() behind the ford", x.cut(0, 2, 0, 2), 3);
        DESK.due("cut() of all", x.cut(0, 2, 0, 7), 4);
        DESK.due("cut() of all but one", x.cut(0, 2, 0, 6), 3);
        DESK.due("cut() where one does not STAND now", x.cut(1, 0, 0, 1), 0);
        DESK.due("cut() by 99", x.cut(0, 2, 0, 99), 4);
        DESK.due("cut() by 100", x.cut(0, 2, 0, 100), -1);
        DESK.due("cut() by -1", x.cut(0, 2, 0, -1), -1);
        DESK.due("cut() of no such CELL", x.cut(4, 2, 0, 1), -1);
        DESK.due("cut() of no such DAY", x.cut(0, 2, 30, 1), -1);
        DESK.due("drowns() of the ford", x.drowns(0, 2, 2, 0), 2);
        DESK.due("drowns() of the day behind", x.drowns(0, 2, 2, 1), 4);
        DESK.due("drowns() of a CELL", x.drowns(0, 0, 2, 0), 7);
        DESK.due("drowns() of none now", x.drowns(0, 2, 0, 0), -1);
        DESK.due("drowns() by 99", x.drowns(0, 2, 99, 0), 99);
        DESK.due("drowns() by none of 99", x.drowns(0, 0, 96, 0), -1);
        DESK.due("dry() today", x.dry(0, 2, 1), 0);
        DESK.due("dry() on a later day", x.dry(0, 2, 0), 1);
        x.day();
        x.day();
        DESK.due("dry() from today on", x.dry(0, 2, 0), 2);
        DESK.due("dry() of no such CELL", x.dry(0, 4, 0), -1);
        DESK.due("dry() of no such h", x.dry(0, 2, 100), -1);
        for (int i = 0; i < 4; i++) {
            x.day();
        }
        DESK.due("dry() on none", x.dry(0, 2, 0), -1);
        DESK.due("dry() for 95", x.dry(0, 2, 95), 6);
    }

    /** Promise 42. */
    private static void who() {
        StiltHerds x = Desk.on("row 9 9 9;door 1 0 3;herd a 0 0 3;herd b 2 0 4;herd c 0 0 0;water 1 12;");
        DESK.due("who()", x.who(0, 2), 5);
        DESK.due("who() to itself", x.who(1, 1), 5);
        x.day();
        DESK.due("who() on a wet day", x.who(0, 2), 1);
        DESK.due("who() of no such CELL", x.who(0, 3), -1);
        DESK.due("who() of no such CELL", x.who(-1, 0), -1);
    }

    /** Promises 16, 43 and 44. */
    private static void walks() {
        StiltHerds x = Desk.on("row 1 9 1;row 1 4 1;row 1 1 1;wind 0 0;wind 1 99;wind 2 50;");
        DESK.due("way() ahead of any", x.way(0), -1);
        DESK.due("walk() without RISK", x.walk(0, 2, 10, 7), 0);
        dueWay(x, 0, 10, 20, 21, 22, 12, 2);
        DESK.due("walk() to itself", x.walk(21, 21, 10, 7), 0);
        dueWay(x, 21);
        // Without RISK of the ground the WAY is of fewest STEPS, and of such north and east first.
        DESK.due("walk() without STILTS", x.walk(10, 2, 0, 7), 0);
        dueWay(x, 10, 0, 1, 2);
        DESK.due("walk() of no such h", x.walk(0, 2, 100, 7), -1);
        DESK.due("walk() of no such CELL", x.walk(0, 3, 0, 7), -1);
        dueWay(x, 10, 0, 1, 2);
        DESK.due("falls() without RISK", x.falls(0, 2, 10, 200, 1), 0);
        dueWay(x, 10, 0, 1, 2);
        x.day();
        // RISKS of 99 and above: (1 * 1103515245 + 12345) >>> 8 is 4310655, which draws 55.
        DESK.due("walk() in a storm", x.walk(0, 2, 10, 1), 1);
        DESK.due("falls() in a storm", x.falls(0, 2, 99, 200, 5), 200);
        DESK.due("falls() of one walk", x.falls(0, 2, 10, 1, 1), 1);
        x.day();
        draws(x);
        DESK.due("falls() of 0", x.falls(0, 2, 0, 0, 1), -1);
        DESK.due("falls() of 201", x.falls(0, 2, 0, 201, 1), -1);
        DESK.due("falls() of no such CELL", x.falls(0, 33, 0, 1, 1), -1);
        StiltHerds y = Desk.on("row 9 0 9;water 0 5;");
        DESK.due("walk() of no WAY", y.walk(0, 2, 4, 1), -1);
        DESK.due("falls() of no WAY", y.falls(0, 2, 4, 1, 1), -1);
        DESK.due("way() when no walk() was", y.way(0), -1);
    }

    /** Along two STEPS of RISK 50, against draws made here. */
    private static void draws(StiltHerds x) {
        int fallen = 0;
        for (int seed = Integer.MAX_VALUE - 50; fallen < 1000 && seed != Integer.MIN_VALUE + 50; seed++) {
            int one = seed * 1103515245 + 12345;
            int two = one * 1103515245 + 12345;
            int want = (one >>> 8) % 100 < 50 ? 1 : (two >>> 8) % 100 < 50 ? 2 : 0;
            DESK.due("walk() by " + seed, x.walk(0, 2, 0, seed), want);
            fallen += want > 0 ? 1 : 0;
        }
        DESK.due("falls() over the edge of ints", x.falls(0, 2, 0, 101, Integer.MAX_VALUE - 50), fallen);
    }

    public static void main(String[] args) {
        steps();
        risk();
        ladders();
        write();
        passes();
        reach();
        lowAndHigh();
        rain();
        who();
        walks();
        DESK.finish("WaysTest");
    }
}
