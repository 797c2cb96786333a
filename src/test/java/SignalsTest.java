/** Promises 22 to 25: who SEES whom, things seen, signals handed on, fires. */
public final class SignalsTest {
    private static final Desk DESK = new Desk();

    /** Promise 22. */
    private static void sees() {
        // EYES: a 5, b 8, c 5, d 5, e 9; the ground between a and b is 5 at (1, 0).
        StiltHerds x = Desk.on("row 5 4 5 5;row 5 5 5 5;row 5 5 4 5;herd a 0 0 0;herd b 2 0 3;herd c 1 1 0;herd d 2 1 0;"
            + "herd e 2 2 5;fog 1 4;fog 2 5;fog 3 8;");
        DESK.due("sees() along a row, over lower ground, and on a slant", x.sees(0), 6);
        DESK.due("sees() not through ground as high as the lower EYE", x.sees(0) & 16, 0);
        DESK.due("sees() of b", x.sees(1), 1 | 4 | 8 | 16);
        DESK.due("sees() of c", x.sees(2), 1 | 2 | 8 | 16);
        DESK.due("sees() of e, over lower ground", x.sees(4), 2 | 4 | 8);
        x.day();
        DESK.due("EYE above FOG", x.sees(0), 6);
        x.day();
        DESK.due("EYE as high as FOG", x.sees(0), 0);
        DESK.due("both EYES above FOG", x.sees(1), 16);
        x.day();
        DESK.due("FOG as high as one EYE", x.sees(4), 0);
        DESK.due("sees() of no such HERD", x.sees(5), -1);
        DESK.due("sees() of no such HERD", x.sees(-1), -1);
        StiltHerds y = Desk.on("row 5 5 5;row 5 5 5;herd a 0 0 1;herd b 0 0 1;herd c 2 1 9;");
        DESK.due("not on one CELL, nor off the lines", y.sees(0), 0);
    }

    private static void lowerEye() {
        StiltHerds x = Desk.on("row 5 7 5;herd a 0 0 2;herd b 2 0 9;");
        DESK.due("ground as high as the lower EYE", x.sees(1), 0);
        x.trade(0, 1, 1);
        DESK.due("ground below the lower EYE", x.sees(1), 1);
        StiltHerds y = Desk.on("row 9 9 9 1;row 9 9 1 9;row 9 1 9 9;row 1 9 9 9;herd a 3 0 1;herd b 0 3 1;");
        DESK.due("the other slant", y.sees(0), 2);
        StiltHerds z = Desk.on("row 1 9;row 0 9;row 1 9;herd a 0 0 0;herd b 0 2 0;");
        DESK.due("a column", z.sees(0), 2);
    }

    /** Promise 23. */
    private static void saw() {
        StiltHerds x = Desk.on("row 5 5 5;row 5 6 5;row 5 5 5;herd a 0 0 2;herd b 0 0 0;herd c 2 1 4;fog 1 6;fog 2 9;");
        DESK.due("saw() over the hill", x.saw(22, 2), 1 | 4);
        DESK.due("saw() behind the hill", x.saw(22, 1), 4);
        DESK.due("saw() off the lines, and on the CELL", x.saw(0, 9), 3);
        DESK.due("saw() on the hill", x.saw(11, 0), 7);
        x.day();
        DESK.due("saw() in the FOG", x.saw(22, 1), 0);
        DESK.due("saw() above the FOG", x.saw(22, 2), 1 | 4);
        DESK.due("saw() on the CELL in the FOG", x.saw(0, 0), 3);
        x.day();
        DESK.due("saw() when the EYES are in the FOG", x.saw(22, 99), 0);
        DESK.due("saw() of 100", x.saw(0, 100), -1);
        DESK.due("saw() of -1", x.saw(0, -1), -1);
        DESK.due("saw() on no such CELL", x.saw(3, 0), -1);
    }

    /** Promises 24 and 25. */
    private static void handed() {
        StiltHerds x = Desk.on("row 5 5 5 5 5;row 5 5 5 5 5;row 5 5 5 5 5;herd lone 4 1 1;herd a 0 0 1;herd b 2 0 1;"
            + "herd c 2 1 1;herd d 1 2 1;herd deaf 4 1 1;fog 1 20;");
        // c and the lone ones are in one row; a, b, c, d make a chain, and a sees c on no line.
        DESK.due("handed() at once", x.handed(1, 2), 1);
        DESK.due("handed() by one", x.handed(1, 3), 2);
        DESK.due("handed() by two", x.handed(1, 4), 3);
        DESK.due("handed() to the one in the row", x.handed(1, 0), 3);
        DESK.due("handed() on one CELL", x.handed(0, 5), 2);
        DESK.due("handed() to itself", x.handed(3, 3), 0);
        DESK.due("fires() of one", x.fires(), 1);
        x.go(3, 13);
        DESK.due("handed() in a chain cut", x.handed(1, 4), -1);
        x.day();
        DESK.due("handed() in the FOG", x.handed(1, 2), -1);
        DESK.due("handed() to itself in the FOG", x.handed(1, 1), 0);
        DESK.due("fires() in the FOG", x.fires(), 63);
        DESK.due("handed() of no such HERD", x.handed(6, 0), -1);
        DESK.due("handed() of no such HERD", x.handed(0, -1), -1);
        DESK.due("fires() of none", Desk.on("row 1 1;").fires(), 0);
        StiltHerds y = Desk.on("row 5 5 9 5 5;herd a 3 0 1;herd b 0 0 1;herd c 1 0 1;herd d 4 0 1;herd e 2 0 0;");
        DESK.due("fires() of one group, by the hill", y.fires(), 1);
        StiltHerds z = Desk.on("row 5 5 9 5 5;herd a 3 0 1;herd b 0 0 1;herd c 1 0 1;herd d 4 0 1;");
        DESK.due("fires() of two groups", z.fires(), 3);
        DESK.due("handed() from group to group", z.handed(0, 1), -1);
    }

    public static void main(String[] args) {
        sees();
        lowerEye();
        saw();
        handed();
        DESK.finish("SignalsTest");
    }
}
