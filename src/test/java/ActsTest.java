/** Promises 26 to 31, 34 to 37 and 46 to 49: the wolf, ACTS, PLANS judged, HOLES, SEATS, images. */
public final class ActsTest {
    private static final Desk DESK = new Desk();

    /** Promises 26, 30 and 34. */
    private static void wolf() {
        StiltHerds x = Desk.on("row 5 5 5;row 5 1 5;row 5 5 5;water 0 3;wolf 1 2 1;herd a 1 0 2;herd b 2 0 9;herd c 2 2 0;");
        DESK.due("the wolf's CELL", x.wolf(0), 21);
        DESK.due("the wolf's N", x.wolf(1), 1);
        DESK.due("HEADS taken", x.wolf(2), 0);
        DESK.due("wolf(3)", x.wolf(3), -1);
        DESK.due("wolf(-1)", x.wolf(-1), -1);
        // Round the pool a is 4 STEPS off east and west, and b 3: c has no HEADS.
        DESK.due("lost() while it comes", x.lost(1, 3), 0);
        DESK.due("lost() once it is there", x.lost(1, 4), 1);
        DESK.due("lost() of another", x.lost(0, 20), 2);
        DESK.due("lost() in a whole night", x.lost(1, 20), 9);
        DESK.due("lost() changes nothing", x.wolf(0), 21);
        DESK.due("lost() changes no HEADS", x.flock(), 11);
        DESK.due("lost() of 0", x.lost(0, 0), -1);
        DESK.due("lost() of 21", x.lost(0, 21), -1);
        DESK.due("lost() of no such HERD", x.lost(3, 1), -1);
        DESK.due("night(1)", x.night(1), 0);
        DESK.due("the wolf goes east", x.wolf(0), 22);
        DESK.due("night(4)", x.night(4), 2);
        DESK.due("the wolf is at b", x.wolf(0), 2);
        DESK.due("HEADS of b", x.herd(1, 1), 7);
        DESK.due("HEADS taken so far", x.wolf(2), 2);
        DESK.due("night(8)", x.night(8), 7);
        DESK.due("the wolf goes on to a", x.wolf(0), 1);
        DESK.due("night(20)", x.night(20), 2);
        DESK.due("HEADS taken in all", x.wolf(2), 11);
        DESK.due("the wolf stays when there are none", x.night(20), 0);
        DESK.due("the wolf is at a", x.wolf(0), 1);
        DESK.due("night(0)", x.night(0), -1);
        DESK.due("night(21)", x.night(21), -1);
        StiltHerds none = Desk.on("row 1 1;herd a 0 0 1;");
        DESK.due("night() without a wolf", none.night(1), -1);
        DESK.due("lost() without a wolf", none.lost(0, 1), -1);
        DESK.due("wolf() without one", none.wolf(0), -1);
        DESK.due("undo() when no night was", none.undo(), -1);
    }

    private static void wolfOrders() {
        StiltHerds x = Desk.on("row 5 5 5;row 5 5 5;row 5 5 5;wolf 1 1 0;herd a 2 2 1;herd b 0 0 1;herd c 0 0 1;");
        x.night(1);
        DESK.due("of like near HERDS the least, east ahead of south", x.wolf(0), 12);
        x.undo();
        x.trade(0, 1, 0);
        x.night(1);
        DESK.due("north ahead of west", x.wolf(0), 1);
        DESK.due("night(2)", x.night(2), 1);
        DESK.due("of HERDS on one CELL the least", x.herd(1, 1), 0);
        DESK.due("the other one", x.herd(2, 1), 1);
        // A wolf does not mind doors and mud; it only goes where the water is low.
        StiltHerds y = Desk.on("row 5 5 5 0 9;water 0 5;wolf 0 0 4;door 1 0 0;mud 1 0 99;herd a 2 0 5;herd b 4 0 9;");
        DESK.due("night() past door and mud", y.night(5), 3);
        DESK.due("night() until a has none", y.night(20), 2);
        DESK.due("the wolf can't come to b", y.wolf(0), 2);
        StiltHerds z = Desk.on("row 5 5 5 0 9;water 0 5;wolf 0 0 5;herd b 4 0 9;");
        DESK.due("DEPTH as its N", z.night(10), 6);
    }

    /** Promises 27 to 29. */
    private static void acts() {
        StiltHerds x = Desk.on("row 5 0 5;water 0 3;herd a 0 0 3;herd b 0 0 2;");
        DESK.due("go()", x.go(0, 2), 0);
        DESK.due("CELL behind go()", x.herd(0, 0), 2);
        DESK.due("go() without a WAY", x.go(1, 2), 1);
        DESK.due("CELL behind go() that was WRONG", x.herd(1, 0), 0);
        DESK.due("go() to its own CELL", x.go(1, 0), 0);
        DESK.due("go() of no such HERD", x.go(2, 0), -1);
        DESK.due("go() to no such CELL", x.go(0, 3), -1);
        DESK.due("buy", x.trade(1, 97, 1), 0);
        DESK.due("HEADS behind it", x.herd(1, 1), 99);
        DESK.due("buy more than 99", x.trade(1, 1, 1), 3);
        DESK.due("sell", x.trade(1, 98, 0), 0);
        DESK.due("sell all", x.trade(1, 1, 0), 0);
        DESK.due("sell more than all", x.trade(1, 1, 0), 2);
        DESK.due("HEADS behind it", x.herd(1, 1), 0);
        DESK.due("trade() of 0", x.trade(0, 0, 0), -1);
        DESK.due("trade() of 100", x.trade(0, 100, 1), -1);
        DESK.due("trade(.., 2)", x.trade(0, 1, 2), -1);
        DESK.due("trade(.., -1)", x.trade(0, 1, -1), -1);
        DESK.due("trade() of no such HERD", x.trade(2, 1, 1), -1);
        for (int d = 1; d <= 29; d++) {
            DESK.due("day()", x.day(), d);
        }
        DESK.due("day() behind 29", x.day(), -1);
        DESK.due("DAY", x.count(7), 29);
    }

    /** Promise 31. */
    private static void undo() {
        StiltHerds x = Desk.on("row 5 5;wolf 0 0 0;herd a 1 0 9;");
        DESK.due("undo() of none", x.undo(), -1);
        x.go(0, 0);
        x.trade(0, 1, 1);
        x.day();
        x.night(3);
        x.trade(0, 50, 0);
        DESK.due("HEADS behind them all", x.herd(0, 1), 7);
        DESK.due("undo() of the night", x.undo(), 3);
        DESK.due("HEADS ahead of the night", x.herd(0, 1), 10);
        DESK.due("taken ahead of the night", x.wolf(2), 0);
        DESK.due("undo() of the day", x.undo(), 2);
        DESK.due("DAY", x.count(7), 0);
        DESK.due("undo() of the trade", x.undo(), 1);
        DESK.due("HEADS at first", x.herd(0, 1), 9);
        DESK.due("undo() of the go", x.undo(), 0);
        DESK.due("CELL at first", x.herd(0, 0), 1);
        DESK.due("undo() of no more", x.undo(), -1);
        for (int i = 0; i < 10; i++) {
            x.day();
        }
        for (int left = 7; left >= 0; left--) {
            DESK.due("undo() of 8 at most", x.undo(), left);
        }
        DESK.due("undo() of a ninth", x.undo(), -1);
        DESK.due("DAY behind 8 of 10", x.count(7), 2);
        x.day();
        Desk.moor(x, "row ;");
        DESK.due("a FAULT leaves it undoable", x.undo(), 0);
    }

    /** Promise 31: a PLAN of which no LINE was done is no ACT done. */
    private static void undoOfNoLines() {
        StiltHerds x = new StiltHerds();
        x.judge(1);
        DESK.due("undo() behind no PLAN", x.undo(), -1);
        x = Desk.on("row 5 5;herd a 1 0 9;");
        Desk.plan(x, "sell a 99;day;");
        DESK.due("LINE 0 is WRONG", x.judge(1), 0);
        DESK.due("undo() behind a WRONG LINE 0", x.undo(), -1);
        x.day();
        x.judge(1);
        x.plan();
        x.judge(1);
        DESK.due("undo() of the day ahead of both", x.undo(), 0);
        DESK.due("DAY behind it", x.count(7), 0);
        for (int i = 0; i < 8; i++) {
            x.day();
        }
        x.judge(1);
        DESK.due("no place of the 8 was taken", x.undo(), 7);
        DESK.due("DAY behind the latest of 8", x.count(7), 7);
        Desk.plan(x, "go a 1 0;");
        x.judge(1);
        DESK.due("a LINE that changes nothing is done, too", x.undo(), 7);
        DESK.due("DAY behind such a LINE", x.count(7), 7);
        Desk.plan(x, "day;sell a 99;");
        DESK.due("LINE 1 is WRONG", x.judge(1), 1);
        DESK.due("undo() of LINE 0 alone", x.undo(), 7);
        DESK.due("DAY behind LINE 0", x.count(7), 7);
    }

    /** Promises 46 and 47. */
    private static void judge() {
        StiltHerds x = Desk.on("row 5 5 5;row 5 0 5;water 2 9;wolf 0 0 0;herd ann 1 0 9;herd bob 2 1 2;");
        DESK.due("judged() ahead of any", x.judged(0), -1);
        Desk.plan(x, "go ann 0 1;night 3;day;sell bob 2;buy ann 5;go bob 1 1;day;go bob 0 0;day;");
        DESK.due("judge(0)", x.judge(0), 7);
        int[] due = {1, 7, 2, 12, 3, 2};
        for (int what = 0; what < due.length; what++) {
            DESK.due("judged(" + what + ")", x.judged(what), due[what]);
        }
        DESK.due("judged(6)", x.judged(6), -1);
        DESK.due("judged(-1)", x.judged(-1), -1);
        DESK.due("all stays, DAY", x.count(7), 0);
        DESK.due("all stays, CELL", x.herd(0, 0), 1);
        DESK.due("all stays, HEADS", x.flock(), 11);
        DESK.due("all stays, wolf", x.wolf(0), 0);
        DESK.due("nothing to undo", x.undo(), -1);
        DESK.due("judge(2)", x.judge(2), -2);
        DESK.due("judge(-1)", x.judge(-1), -2);
        DESK.due("judged() behind judge(2)", x.judged(1), 7);
        x.trade(0, 1, 1);
        DESK.due("judge(1)", x.judge(1), 7);
        DESK.due("as far as it goes, DAY", x.count(7), 2);
        DESK.due("as far as it goes, CELL", x.herd(0, 0), 10);
        DESK.due("as far as it goes, CELL", x.herd(1, 0), 11);
        DESK.due("as far as it goes, HEADS", x.flock(), 13);
        DESK.due("as far as it goes, wolf", x.wolf(2), 2);
        DESK.due("the plan stays", x.count(8), 9);
        DESK.due("a plan lived is undone at once", x.undo(), 1);
        DESK.due("DAY behind it", x.count(7), 0);
        DESK.due("HEADS behind it", x.flock(), 12);
        Desk.plan(x, "day;night 2;");
        DESK.due("a plan that is right", x.judge(1), -1);
        DESK.due("why", x.judged(0), 0);
        DESK.due("LINES done", x.judged(1), 2);
    }

    private static void wrongLines() {
        StiltHerds x = Desk.on("row 5 5;row 5 0;water 0 3;herd ann 0 0 2;");
        String[] plans = {"go ann 1 1;", "sell ann 3;", "buy ann 98;", "night 1;"};
        int[] reasons = {1, 2, 3, 5};
        for (int i = 0; i < plans.length; i++) {
            Desk.plan(x, "day;" + plans[i]);
            DESK.due("judge() of " + plans[i], x.judge(0), 1);
            DESK.due("judged(0) of " + plans[i], x.judged(0), reasons[i]);
        }
        Desk.plan(x, "day;".repeat(30));
        DESK.due("judge() of 30 days", x.judge(0), 29);
        DESK.due("judged(0) of 30 days", x.judged(0), 4);
        x.plan();
        DESK.due("judge() of an empty plan", x.judge(0), -1);
        DESK.due("HEADS of all", x.judged(3), 2);
    }

    /** Promise 35. */
    private static void holes() {
        StiltHerds x = Desk.on("row 5 5 5;row 5 5 0;mud 1 0 7;door 0 1 9;law 1 99;water 0 4;herd a 0 0 9;herd b 0 0 7;herd c 0 0 10;"
            + "herd d 0 0 3;herd e 0 0 6;");
        DESK.due("holes() of one", Desk.holes(x, 0, 0, 4), 1 | 2 | 16);
        DESK.due("holes() of 10", Desk.holes(x, 0, 0, 5), 4);
        DESK.due("holes() of few", Desk.holes(x, 0, 0, 3), 8);
        DESK.due("holes() in mud", Desk.holes(x, 1, 0, 7), 1 | 2);
        DESK.due("holes() below a door", Desk.holes(x, 0, 1, 5), 0);
        DESK.due("holes() in water", Desk.holes(x, 2, 1, 3), 0);
        DESK.due("holes() of all must be so", Desk.holes(x, 0, 0, 4, 1, 0, 7, 0, 1, 4), 1 | 2);
        DESK.due("holes() of one that is not so", Desk.holes(x, 0, 0, 4, 1, 0, 6), 0);
        DESK.due("holes() of 255 inches", Desk.holes(x, 0, 0, 255), 0);
        DESK.due("holes() of none", Desk.holes(x), -1);
        DESK.due("holes() of two bytes", Desk.holes(x, 0, 0), -1);
        DESK.due("holes() of four bytes", Desk.holes(x, 0, 0, 4, 0), -1);
        DESK.due("holes() of no column", Desk.holes(x, 3, 0, 4), -1);
        DESK.due("holes() of no row", Desk.holes(x, 0, 2, 4), -1);
        DESK.due("holes() of a byte above 127", Desk.holes(x, 0, 255, 4), -1);
        DESK.due("the tape is empty", x.count(9), 0);
        int[] forty = new int[120];
        for (int i = 2; i < 120; i += 3) {
            forty[i] = 4;
        }
        DESK.due("40 holes", Desk.holes(x, forty), 1 | 2 | 16);
        DESK.due("41 holes", Desk.holes(x, java.util.Arrays.copyOf(forty, 123)), -1);
    }

    /** Promises 36 and 37. */
    private static void seats() {
        StiltHerds x = Desk.on("row 5 5;herd a 0 0 9;herd b 0 0 1;herd c 0 0 5;");
        DESK.due("seat() ahead of any", x.seat(0), -1);
        DESK.due("seats(3)", x.seats(3), 0);
        DESK.due("seat() behind 0", x.seat(0), -1);
        DESK.due("seats(4)", x.seats(4), 2);
        dueSeats(x, 0, 2, 1);
        DESK.due("seats(7)", x.seats(7), 2);
        DESK.due("seats(8)", x.seats(8), 6);
        dueSeats(x, 0, 1, 2);
        DESK.due("seats(100)", x.seats(100), -1);
        DESK.due("seats(-1)", x.seats(-1), -1);
        dueSeats(x, 0, 1, 2);
        DESK.due("seats(99)", x.seats(99), 6);
        StiltHerds y = Desk.on("row 5 5;herd a 0 0 5;herd b 0 0 1;herd c 0 0 9;herd d 0 0 2;");
        DESK.due("the first one may have to go elsewhere", y.seats(4), 4);
        dueSeats(y, 1, 3, 0, 2);
        StiltHerds z = Desk.on("row 5 5;herd a 0 0 1;herd b 0 0 1;herd c 0 0 1;herd d 0 0 1;herd e 0 0 1;herd f 0 0 1;"
            + "herd g 0 0 1;herd h 0 0 1;");
        DESK.due("seats() of 8", z.seats(0), 40320);
        dueSeats(z, 0, 1, 2, 3, 4, 5, 6, 7);
        Desk.moor(z, "");
        dueSeats(z, 0, 1, 2, 3, 4, 5, 6, 7);
        DESK.due("seats() of none", z.seats(0), 1);
        dueSeats(z);
    }

    private static void dueSeats(StiltHerds x, int... order) {
        for (int i = 0; i < order.length; i++) {
            DESK.due("seat(" + i + ")", x.seat(i), order[i]);
        }
        DESK.due("seat() behind the last", x.seat(order.length), -1);
        DESK.due("seat(-1)", x.seat(-1), -1);
    }

    /** Promises 48 and 49. */
    private static void images() {
        StiltHerds x = Desk.on("row 5 5;wolf 0 0 0;herd ann 0 0 9;");
        DESK.due("restore() of nothing", x.restore(0), false);
        DESK.due("restore(2)", x.restore(2), false);
        DESK.due("image(2)", x.image(2), false);
        DESK.due("image(-1)", x.image(-1), false);
        Desk.plan(x, "day;day;");
        x.night(4);
        x.day();
        DESK.due("image(1)", x.image(1), true);
        DESK.due("restore(0) when only 1 is kept", x.restore(0), false);
        DESK.due("image() leaves ACTS undoable", x.undo(), 1);
        DESK.due("image(0)", x.image(0), true);
        x.seats(0);
        x.write(0, 1, 5, 0);
        x.walk(1, 0, 5, 3);
        x.judge(0);
        Desk.moor(x, "row 1 2 3;law 3 4;timber 5;");
        Desk.moor(x, "law ?");
        x.feed(0, 0, 0, 0, 0);
        DESK.due("restore(1)", x.restore(1), true);
        DESK.due("MOOR", x.count(0), 2);
        DESK.due("law", x.count(2), 1);
        DESK.due("DAY", x.count(7), 1);
        DESK.due("HEADS", x.herd(0, 1), 5);
        DESK.due("taken", x.wolf(2), 4);
        DESK.due("PLAN", x.count(8), 2);
        DESK.due("the tape stays", x.count(9), 20);
        DESK.due("the fault stays", x.fault(), 1);
        DESK.due("the order stays", x.seat(0), 0);
        DESK.due("the text stays", x.byteAt(0), 'e');
        DESK.due("the WAY stays", x.way(0), 1);
        DESK.due("the judgement stays", x.judged(1), 2);
        DESK.due("nothing can be undone", x.undo(), -1);
        DESK.due("names are kept", plan(x, "sell ann 2;"), 1);
        x.judge(1);
        DESK.due("restore(1) again", x.restore(1), true);
        DESK.due("an image is not changed by ACTS", x.herd(0, 1), 5);
        DESK.due("an image is not changed by plan()", x.count(8), 2);
        DESK.due("restore(0)", x.restore(0), true);
        DESK.due("DAY of the other image", x.count(7), 0);
    }

    private static int plan(StiltHerds x, String text) {
        x.end(0);
        return Desk.plan(x, text);
    }

    public static void main(String[] args) {
        wolf();
        wolfOrders();
        acts();
        undo();
        undoOfNoLines();
        judge();
        wrongLines();
        holes();
        seats();
        images();
        DESK.finish("ActsTest");
    }
}
