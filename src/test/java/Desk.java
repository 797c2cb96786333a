import java.util.NoSuchElementException;

/** What the tests of the promises share: texts put on tapes, and answers compared with what is due. */
final class Desk {
    private int checks = 0;
    private int wrong = 0;

    void due(String what, long got, long want) {
        checks++;
        if (got != want) {
            wrong++;
            System.out.println(what + " answered " + got + ", due is " + want);
        }
    }

    void due(String what, boolean got, boolean want) {
        due(what, got ? 1 : 0, want ? 1 : 0);
    }

    void finish(String name) {
        System.out.println(name + ": " + checks + " checks, " + wrong + " wrong");
        if (wrong != 0) {
            System.exit(1);
        }
    }

    /** Puts a text on the tape, behind what is there. */
    static void feed(StiltHerds x, String text) {
        int before = x.count(9);
        for (int i = 0; i < text.length(); i += 20) {
            int[] n = new int[5];
            for (int k = 0; k < 20; k++) {
                int at = i + k;
                n[k / 4] = n[k / 4] << 8 | (at < text.length() ? text.charAt(at) & 255 : 0);
            }
            x.feed(n[0], n[1], n[2], n[3], n[4]);
        }
        x.end(before + text.length());
    }

    static int moor(StiltHerds x, String text) {
        feed(x, text);
        return x.moor();
    }

    static int plan(StiltHerds x, String text) {
        feed(x, text);
        return x.plan();
    }

    static int holes(StiltHerds x, int... bytes) {
        StringBuilder text = new StringBuilder();
        for (int b : bytes) {
            text.append((char) b);
        }
        feed(x, text.toString());
        return x.holes();
    }

    /** A new object with a MOOR; the text must be one. */
    static StiltHerds on(String text) {
        StiltHerds x = new StiltHerds();
        if (moor(x, text) < 0) {
            throw new IllegalArgumentException("no moor: " + text);
        }
        return x;
    }

    /** Checks a text of a MOOR that has a FAULT: its place, its kind, and that the MOOR stays. */
    void moorFault(String text, int place, int kind) {
        StiltHerds x = on("row 1 2 3;law 7 8;herd old 1 0 9;");
        due("moor " + text, moor(x, text), -1 - place);
        due("fault of " + text, x.fault(), kind);
        due("columns stay behind " + text, x.count(0), 3);
        due("EACH stays behind " + text, x.count(2), 7);
        due("HERDS stay behind " + text, x.count(6), 1);
        due("the tape is empty behind " + text, x.count(9), 0);
    }

    void planFault(String text, int place, int kind) {
        StiltHerds x = on("row 1 2 3;row 1 2 3;herd ann 0 0 5;herd bob 1 1 9;");
        plan(x, "day;day;");
        due("plan " + text, plan(x, text), -1 - place);
        due("fault of " + text, x.fault(), kind);
        due("the plan stays behind " + text, x.count(8), 2);
        due("the tape is empty behind " + text, x.count(9), 0);
    }

    void noCell(StiltHerds x, int at, int what) {
        boolean thrown = false;
        try {
            x.cell(at, what);
        } catch (NoSuchElementException e) {
            thrown = true;
        }
        due("cell(" + at + ", " + what + ") throws", thrown, true);
    }

    void noHerd(StiltHerds x, int h, int what) {
        boolean thrown = false;
        try {
            x.herd(h, what);
        } catch (NoSuchElementException e) {
            thrown = true;
        }
        due("herd(" + h + ", " + what + ") throws", thrown, true);
    }
}
