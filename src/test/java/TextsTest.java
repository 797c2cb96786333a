/** Promises 1 to 5, 45 and 50: the tape, a MOOR, a PLAN and their FAULTS, and counts. */
public final class TextsTest {
    private static final Desk DESK = new Desk();

    private static String times(String text, int n) {
        return text.repeat(n);
    }

    /** Promises 1 and 50. */
    private static void newObject() {
        StiltHerds x = new StiltHerds();
        int[] due = {0, 0, 1, 99, 0, 0, 0, 0, 0, 0, 0};
        for (int what = 0; what < due.length; what++) {
            DESK.due("count(" + what + ") of a new object", x.count(what), due[what]);
        }
        DESK.due("count(11)", x.count(11), StiltHerds.NONE);
        DESK.due("count(-1)", x.count(-1), StiltHerds.NONE);
        DESK.due("fault() ahead of any", x.fault(), 0);
        DESK.due("NONE", StiltHerds.NONE, -1);
    }

    /** Promises 2 and 3. */
    private static void tape() {
        StiltHerds x = new StiltHerds();
        DESK.due("end(0) of an empty tape", x.end(0), true);
        DESK.due("end(1) of an empty tape", x.end(1), false);
        for (int i = 1; i <= 47; i++) {
            DESK.due("feed " + i, x.feed(0, 0, 0, 0, 0), 20 * i);
        }
        DESK.due("feed beyond 940", x.feed(0, 0, 0, 0, 0), -1);
        DESK.due("tape beyond 940", x.count(9), 940);
        DESK.due("end(941)", x.end(941), false);
        DESK.due("end(-1)", x.end(-1), false);
        DESK.due("end(940)", x.end(940), true);
        DESK.due("end(921)", x.end(921), true);
        DESK.due("feed behind 921", x.feed(0, 0, 0, 0, 0), -1);
        DESK.due("end(920)", x.end(920), true);
        DESK.due("end(921) behind end(920)", x.end(921), false);
        DESK.due("feed behind 920", x.feed(0, 0, 0, 0, 0), 940);
        StiltHerds y = new StiltHerds();
        // 'row 1 2;' with the highest byte of each number first, and bytes above 127 behind it.
        y.feed(0x726f7720, 0x31203220, 0x3b8080ff, 0, 0);
        y.end(9);
        DESK.due("moor() of bytes fed", y.moor(), 1);
        y.feed(0x8072, 0, 0, 0, 0);
        DESK.due("a byte of 0", y.moor(), -1);
        Desk.feed(y, "row 1 2;");
        Desk.feed(y, "law 2 3;");
        DESK.due("a text fed in two parts", y.moor(), 2);
    }

    /** Promises 4 and 50. */
    private static void moors() {
        StiltHerds x = Desk.on("row 1 2 3;\nrow 4 5 6;");
        DESK.due("LINES of no text", x.moor(), 0);
        DESK.due("columns of an empty moor", x.count(0), 0);
        DESK.due("blanks only", Desk.moor(x, " \n "), 0);
        String text = "row 1 2 3;row 04 5 6;law 2 50;timber 0;water 29 99;wind 0 0;fog 3 3;door 0 1 4;"
            + "door 1 1 0;mud 0 1 7;ladder 2 1;ladder 0 0;ladder 1 0;herd ann 2 0 99;wolf 2 1 0;";
        DESK.due("LINES", Desk.moor(x, text), 15);
        int[] due = {3, 2, 2, 50, 2, 1, 1, 0, 0, 0, 3};
        for (int what = 0; what < due.length; what++) {
            DESK.due("count(" + what + ")", x.count(what), due[what]);
        }
        DESK.due("no blanks but where they must be", Desk.moor(x, "row 1 2;law 1 2;herd x 0 0 3;"), 3);
        DESK.due("blanks all over", Desk.moor(x, "\n row\n1  2 ; law 3\n4\n;\n"), 2);
        DESK.due("EACH of it", x.count(2), 3);
        x.day();
        Desk.plan(x, "day;");
        Desk.moor(x, "row 1 2;");
        DESK.due("DAY of a new moor", x.count(7), 0);
        DESK.due("PLAN of a new moor", x.count(8), 0);
        DESK.due("EACH without a law", x.count(2), 1);
        DESK.due("MOST without a law", x.count(3), 99);
        DESK.due("undo() on a new moor", x.undo(), -1);
    }

    private static void mostOfAll() {
        String rows = times("row 1 2 3 4 5 6 7 8 9 0;", 10);
        StringBuilder text = new StringBuilder(rows);
        for (int i = 0; i < 12; i++) {
            text.append("door ").append(i % 10).append(' ').append(i / 10).append(" 1;");
            text.append("mud ").append(i % 10).append(' ').append(i / 10).append(" 1;");
            text.append("ladder ").append(i % 10).append(' ').append(i / 10).append(';');
        }
        for (char c = 'a'; c < 'i'; c++) {
            text.append("herd ").append(c).append(" 9 9 1;");
        }
        StiltHerds x = new StiltHerds();
        DESK.due("most LINES", Desk.moor(x, text.toString()), 54);
        DESK.due("doors", x.count(4), 12);
        DESK.due("mud", x.count(5), 12);
        DESK.due("ladders", x.count(10), 12);
        DESK.due("HERDS", x.count(6), 8);
        DESK.moorFault(text + "door 5 5 1;", text.length(), 4);
        DESK.moorFault(text + "mud 5 5 1;", text.length(), 4);
        DESK.moorFault(text + " ladder 5 5;", text.length() + 1, 4);
        DESK.moorFault(text + "herd a 5 5 1;", text.length(), 4);
        DESK.moorFault(text + "row 1;", text.length(), 3);
        DESK.moorFault(rows + "row 1 2 3 4 5 6 7 8 9 0;", rows.length(), 4);
        StringBuilder days = new StringBuilder();
        for (int d = 0; d < 30; d++) {
            days.append("wind ").append(d).append(" 1;fog ").append(d).append(" 2;");
        }
        DESK.due("all DAYS", Desk.moor(x, days.toString()), 60);
    }

    /** Promises 4 and 5: FAULTS of kind 1. */
    private static void cannotCome() {
        DESK.moorFault("row", 3, 1);
        DESK.moorFault("row 1 2", 7, 1);
        DESK.moorFault("row 1 2 ", 8, 1);
        DESK.moorFault("row ;", 4, 1);
        DESK.moorFault(";", 0, 1);
        DESK.moorFault("row 1 2;;", 8, 1);
        DESK.moorFault("1", 0, 1);
        DESK.moorFault("sheep 1;", 0, 1);
        DESK.moorFault("go a 0 0;", 0, 1);
        DESK.moorFault("row 1 2.", 7, 1);
        DESK.moorFault("row 1\t2;", 5, 1);
        DESK.moorFault("Row 1 2;", 0, 1);
        DESK.moorFault("row 1 2a;", 6, 1);
        DESK.moorFault("row1 2;", 0, 1);
        DESK.moorFault("row 100 2;", 4, 1);
        DESK.moorFault("row 1 000;", 6, 1);
        DESK.moorFault("row 1 x;", 6, 1);
        DESK.moorFault("row 1 2;law 1;", 13, 1);
        DESK.moorFault("row 1 2;law 1 2 3;", 16, 1);
        DESK.moorFault("row 1 2;timber ;", 15, 1);
        DESK.moorFault("row 1 2;timber x;", 15, 1);
        DESK.moorFault("row 1 2;ladder 0 0 1;", 19, 1);
        DESK.moorFault("row 1 2;door 0 0;", 16, 1);
        DESK.moorFault("row 1 2;herd 1 0 0 1;", 13, 1);
        DESK.moorFault("row 1 2;herd ;", 13, 1);
        DESK.moorFault("row 1 2;herd sevenam 0 0 1;", 13, 1);
        for (String word : "row law timber water wind fog door mud ladder herd wolf go sell buy day night".split(" ")) {
            DESK.moorFault("row 1 2;herd " + word + " 0 0 1;", 13, 1);
        }
        DESK.due("names that only begin like words", Desk.moor(new StiltHerds(),
            "row 1 2;herd rows 0 0 1;herd ro 0 0 1;herd sixsix 0 0 1;"), 4);
    }

    /** FAULTS of kinds 2 and 3. */
    private static void notAsTold() {
        DESK.moorFault("law 0 5;", 4, 2);
        DESK.moorFault("law 00 5;", 4, 2);
        DESK.moorFault("water 30 1;", 6, 2);
        DESK.moorFault("wind 99 1;", 5, 2);
        DESK.moorFault("fog 30 1;", 4, 2);
        DESK.moorFault("door 0 0 1;", 5, 2);
        DESK.moorFault("row 1 2;door 2 0 1;", 13, 2);
        DESK.moorFault("row 1 2;door 1 1 1;", 15, 2);
        DESK.moorFault("row 1 2;mud 2 0 1;", 12, 2);
        DESK.moorFault("row 1 2;ladder 0 9;", 17, 2);
        DESK.moorFault("row 1 2;herd x 2 0 1;", 15, 2);
        DESK.moorFault("row 1 2;wolf 0 1 1;", 15, 2);
        DESK.moorFault("row 1 2;law 1 2;law 1 2;", 16, 3);
        DESK.moorFault("timber 1;timber 2;", 9, 3);
        DESK.moorFault("row 1 2;wolf 0 0 1;wolf 1 0 1;", 19, 3);
        DESK.moorFault("law 1 2;row 1 2;", 8, 3);
        DESK.moorFault("row 1 2;fog 1 1;row 1 2;", 16, 3);
        DESK.moorFault("water 1 2;water 1 2;", 16, 3);
        DESK.moorFault("wind 01 2;wind 1 2;", 15, 3);
        DESK.moorFault("fog 0 2;fog 0 2;", 12, 3);
        DESK.moorFault("row 1 2;door 1 0 2;door 1 0 x;", 26, 3);
        DESK.moorFault("row 1 2;mud 1 0 2;mud 1 0 2;", 24, 3);
        DESK.moorFault("row 1 2;ladder 1 0;ladder 1 0;", 28, 3);
        DESK.moorFault("row 1 2;herd x 0 0 1;herd x 5 5 1;", 26, 3);
        DESK.due("unlike sorts on a CELL and a DAY", Desk.moor(new StiltHerds(),
            "row 1 2;door 0 0 1;mud 0 0 1;ladder 0 0;water 1 1;wind 1 1;fog 1 1;"), 7);
    }

    /** FAULTS of kind 4. */
    private static void tooMany() {
        DESK.moorFault("row 1;", 5, 4);
        DESK.moorFault("row 1 2 3 4 5 6 7 8 9 10 11;", 25, 4);
        DESK.moorFault("row 1 2;row 1;", 13, 4);
        DESK.moorFault("row 1 2;row 1 2 3;", 16, 4);
        DESK.moorFault("row 1 2;row 1 2 a;", 16, 1);
        DESK.moorFault("row 1 2;row ;", 12, 1);
    }

    private static void tooLong() {
        String head = "row 1 2;";
        String blanks = times(" ", 930);
        StiltHerds x = new StiltHerds();
        DESK.due("900 bytes", Desk.moor(x, (head + blanks).substring(0, 900)), 1);
        DESK.moorFault((head + blanks).substring(0, 901), 900, 1);
        DESK.moorFault((head + blanks).substring(0, 898) + "law 1 2;", 900, 1);
        DESK.moorFault((head + blanks).substring(0, 898) + "lawx 1 2;", 898, 1);
        DESK.moorFault((head + blanks).substring(0, 894) + "law 111 2;", 898, 1);
        DESK.moorFault((head + blanks).substring(0, 894) + "law 0 2;", 898, 2);
        DESK.moorFault((head + blanks).substring(0, 895) + "law 12 2;", 900, 1);
        DESK.due("900 bytes, the last one a ;", Desk.moor(x, (head + blanks).substring(0, 892) + "law 1 2;"), 2);
        DESK.moorFault((head + blanks).substring(0, 892) + "law 1 2;;", 900, 1);
        DESK.moorFault((head + blanks).substring(0, 900) + "?", 900, 1);
        DESK.moorFault(("law 1 2;" + blanks).substring(0, 899) + "law 1 2;", 899, 3);
        DESK.moorFault(("law 1 2;" + blanks).substring(0, 900) + "law 1 2;", 900, 1);
        DESK.moorFault("row 1 ;" + blanks, 6, 4);
        String days = times("day;", 30);
        StiltHerds y = new StiltHerds();
        DESK.due("400 bytes", Desk.plan(y, (days + blanks).substring(0, 400)), 30);
        DESK.planFault((days + blanks).substring(0, 401), 400, 1);
        DESK.planFault((days + blanks).substring(0, 398) + "day;", 398, 4);
        DESK.planFault(("day;" + blanks).substring(0, 398) + "day;", 400, 1);
        DESK.planFault(("day;" + blanks).substring(0, 398) + "night 0;", 400, 1);
        DESK.planFault(("day;" + blanks).substring(0, 398) + "law;", 398, 1);
    }

    /** Promise 45. */
    private static void plans() {
        StiltHerds x = Desk.on("row 1 2 3;row 1 2 3;herd ann 0 0 5;herd bob 1 1 9;");
        DESK.due("plan()", Desk.plan(x, "go ann 2 1;sell bob 1;buy ann 99;day;night 20;night 1;"), 6);
        DESK.due("LINES of the plan", x.count(8), 6);
        DESK.due("fault() without one", x.fault(), 0);
        DESK.due("an empty plan", x.plan(), 0);
        DESK.due("LINES of an empty plan", x.count(8), 0);
        DESK.due("30 LINES", Desk.plan(x, times("day;", 30)), 30);
        DESK.planFault(times("day;", 31), 120, 4);
        DESK.planFault(times("day;", 30) + "row;", 120, 1);
        DESK.planFault(times("day;", 30) + ";", 120, 1);
        DESK.planFault("go ann 3 0;", 7, 2);
        DESK.planFault("go ann 0 2;", 9, 2);
        DESK.planFault("go cid 0 0;", 3, 3);
        DESK.planFault("go day 0 0;", 3, 1);
        DESK.planFault("go 0 0 0;", 3, 1);
        DESK.planFault("sell ann 0;", 9, 2);
        DESK.planFault("buy ann 0;", 8, 2);
        DESK.planFault("buy old 1;", 4, 3);
        DESK.planFault("sell ann 100;", 9, 1);
        DESK.planFault("night 0;", 6, 2);
        DESK.planFault("night 21;", 6, 2);
        DESK.planFault("night;", 5, 1);
        DESK.planFault("day 1;", 4, 1);
        DESK.planFault("day", 3, 1);
        DESK.planFault("row 1 2;", 0, 1);
        DESK.planFault("ann 1;", 0, 1);
        Desk.plan(x, "x");
        DESK.due("fault() of a plan", x.fault(), 1);
        Desk.moor(x, "law 1 2;");
        DESK.due("fault() of the moor behind it", x.fault(), 0);
    }

    public static void main(String[] args) {
        newObject();
        tape();
        moors();
        mostOfAll();
        cannotCome();
        notAsTold();
        tooMany();
        tooLong();
        plans();
        DESK.finish("TextsTest");
    }
}
