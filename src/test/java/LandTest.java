/** Promises 6 to 13: CELLS, HERDS, DAYS, sums, and where one STANDS. */
public final class LandTest {
    private static final Desk DESK = new Desk();
    private static final String MOOR = "row 5 3 9;row 0 7 2;law 4 15;timber 3;water 0 4;water 3 8;wind 2 60;"
        + "fog 1 6;door 1 0 2;mud 2 1 5;herd ann 0 0 3;herd bob 2 1 63;herd cid 0 0 30;wolf 1 1 2;";

    /** Promise 6. */
    private static void cells() {
        StiltHerds x = Desk.on(MOOR);
        DESK.due("ground", x.cell(11, 0), 7);
        DESK.due("DEPTH", x.cell(10, 1), 4);
        DESK.due("DEPTH above the water", x.cell(2, 1), 0);
        DESK.due("door", x.cell(1, 2), 2);
        DESK.due("no door", x.cell(12, 2), -1);
        DESK.due("mud", x.cell(12, 3), 5);
        DESK.due("no mud", x.cell(1, 3), -1);
        DESK.due("HERDS on a CELL", x.cell(0, 4), 5);
        DESK.due("no HERDS", x.cell(1, 4), 0);
        DESK.due("the wolf", x.cell(11, 5), 1);
        DESK.due("no wolf", x.cell(0, 5), 0);
        for (int d = 0; d < 3; d++) {
            x.day();
        }
        DESK.due("DEPTH on day 3", x.cell(10, 1), 8);
        DESK.noCell(x, 3, 0);
        DESK.noCell(x, 20, 0);
        DESK.noCell(x, -1, 0);
        DESK.noCell(x, Integer.MIN_VALUE, 0);
        DESK.noCell(x, Integer.MAX_VALUE, 0);
        DESK.noCell(x, 0, -1);
        DESK.noCell(x, 0, 6);
        DESK.noCell(new StiltHerds(), 0, 0);
        DESK.due("no wolf told", Desk.on("row 1 2;").cell(0, 5), 0);
    }

    /** Promises 7, 9 and 10. */
    private static void herds() {
        StiltHerds x = Desk.on(MOOR);
        DESK.due("CELL of bob", x.herd(1, 0), 12);
        DESK.due("HEADS of bob", x.herd(1, 1), 63);
        DESK.due("STILTS, cut by MOST", x.herd(1, 2), 15);
        DESK.due("STILTS, cut to inches", x.herd(2, 2), 7);
        DESK.due("STILTS of few HEADS", x.herd(0, 2), 0);
        DESK.due("TIMBER of bob", x.herd(1, 3), 33);
        DESK.due("TIMBER of none", x.herd(0, 3), 0);
        DESK.due("EYE of bob", x.herd(1, 4), 17);
        DESK.due("EYE of cid", x.herd(2, 4), 12);
        DESK.noHerd(x, 3, 0);
        DESK.noHerd(x, -1, 0);
        DESK.noHerd(x, 0, 5);
        DESK.noHerd(x, 0, -1);
        DESK.due("timber()", x.timber(), 33 + 17);
        DESK.due("flock()", x.flock(), 96);
        x.trade(2, 10, 0);
        DESK.due("timber() behind a sale", x.timber(), 33 + 13);
        DESK.due("flock() behind a sale", x.flock(), 86);
        StiltHerds y = Desk.on("row 1 2;herd a 0 0 99;herd b 0 0 0;");
        DESK.due("STILTS without a law", y.herd(0, 2), 99);
        DESK.due("TIMBER without timber", y.herd(0, 3), 198);
        DESK.due("timber() of the first HERD too", y.timber(), 198);
        DESK.due("timber() of an empty moor", new StiltHerds().timber(), 0);
    }

    /** Promise 8. */
    private static void days() {
        StiltHerds x = Desk.on("row 1 2;water 3 8;wind 2 60;wind 0 5;fog 29 6;");
        DESK.due("WATER ahead of any told", x.on(2, 0), 0);
        DESK.due("WATER on its day", x.on(3, 0), 8);
        DESK.due("WATER behind it", x.on(29, 0), 8);
        DESK.due("WIND on day 1", x.on(1, 1), 5);
        DESK.due("WIND on day 2", x.on(2, 1), 60);
        DESK.due("FOG on day 28", x.on(28, 2), 0);
        DESK.due("FOG on day 29", x.on(29, 2), 6);
        DESK.due("on(30, 0)", x.on(30, 0), -1);
        DESK.due("on(-1, 0)", x.on(-1, 0), -1);
        DESK.due("on(0, 3)", x.on(0, 3), -1);
        DESK.due("on(0, -1)", x.on(0, -1), -1);
    }

    /** Promise 11. */
    private static void deepest() {
        StiltHerds x = Desk.on("row 5 3 9;row 3 7 4;water 1 3;water 2 6;");
        DESK.due("deepest of like ones", x.deepest(0), 0);
        DESK.due("deepest at the brim", x.deepest(1), 0);
        DESK.due("deepest(2)", x.deepest(2), 1);
        DESK.due("deepest(30)", x.deepest(30), -1);
        DESK.due("deepest(-1)", x.deepest(-1), -1);
        DESK.due("deepest of no CELLS", new StiltHerds().deepest(0), -1);
    }

    /** Promise 12. */
    private static void near() {
        // ann's STILTS are 2: the door of 1 shuts the middle, so bob is 4 STEPS off round it.
        StiltHerds x = Desk.on("row 5 5 5;row 5 5 5;door 1 0 1;herd ann 0 0 2;herd bob 2 0 9;herd cid 0 0 0;water 1 8;");
        DESK.due("near(0, 3)", x.near(0, 3), 4);
        DESK.due("near(0, 4)", x.near(0, 4), 6);
        DESK.due("near(2, 2)", x.near(2, 2), 3);
        DESK.due("near(0, 0)", x.near(0, 0), 4);
        DESK.due("near(0, 99)", x.near(0, 99), 6);
        DESK.due("near(0, 100)", x.near(0, 100), -1);
        DESK.due("near(0, -1)", x.near(0, -1), -1);
        DESK.due("near(3, 1)", x.near(3, 1), -1);
        DESK.due("near(-1, 1)", x.near(-1, 1), -1);
        x.day();
        DESK.due("near() where it does not STAND", x.near(0, 99), 0);
        DESK.due("near() of bob in the water", x.near(1, 99), 5);
    }

    /** Promise 13. */
    private static void stands() {
        StiltHerds x = Desk.on("row 5 3;row 0 0;water 0 4;water 1 2;door 0 1 6;mud 1 1 7;door 1 1 9;");
        DESK.due("above water", x.stands(0, 0, 0), 1);
        DESK.due("DEPTH as h", x.stands(1, 1, 0), 1);
        DESK.due("DEPTH above h", x.stands(1, 0, 0), 0);
        DESK.due("DEPTH of another day", x.stands(1, 0, 1), 1);
        DESK.due("a door as high", x.stands(10, 6, 0), 1);
        DESK.due("a door too low", x.stands(10, 7, 0), 0);
        DESK.due("mud as deep", x.stands(11, 7, 0), 1);
        DESK.due("mud too deep", x.stands(11, 6, 0), 0);
        DESK.due("a door in mud", x.stands(11, 9, 0), 1);
        DESK.due("a door in mud, too low", x.stands(11, 10, 0), 0);
        DESK.due("h of 99", x.stands(0, 99, 29), 1);
        DESK.due("h of 100", x.stands(0, 100, 0), -1);
        DESK.due("h of -1", x.stands(0, -1, 0), -1);
        DESK.due("day 30", x.stands(0, 0, 30), -1);
        DESK.due("day -1", x.stands(0, 0, -1), -1);
        DESK.due("no such CELL", x.stands(2, 0, 0), -1);
    }

    public static void main(String[] args) {
        cells();
        herds();
        days();
        deepest();
        near();
        stands();
        DESK.finish("LandTest");
    }
}
