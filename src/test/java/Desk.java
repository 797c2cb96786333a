import java.lang.reflect.InvocationTargetException;
import java.lang.reflect.Method;
import java.util.Arrays;
import java.util.Comparator;
import java.util.NoSuchElementException;
import java.util.function.IntUnaryOperator;

/** What the tests of the promises share: texts put on tapes, and answers compared with what is due. */
final class Desk {
    /** No CELLS of a MOOR of three columns and two rows; no NUMBERS; no DAYS; none of two HERDS. */
    static final int[] NO_CELLS = {-1, -9, -10, -11, 3, 9, 13, 19, 20, 99, 100, 110, Integer.MIN_VALUE, Integer.MAX_VALUE};
    static final int[] NO_NUMBERS = {-1, 100, 256, Integer.MIN_VALUE, Integer.MAX_VALUE};
    static final int[] NO_DAYS = {-1, 30, 31, Integer.MIN_VALUE, Integer.MAX_VALUE};
    static final int[] NO_HERDS = {-1, 2, 7, 8, 9, Integer.MIN_VALUE, Integer.MAX_VALUE};
    private int checks = 0;
    private int wrong = 0;
    /** The test that runs, so that a check that fails tells whose it is. */
    private String test = "";

    void due(String what, long got, long want) {
        checks++;
        if (got != want) {
            wrong++;
            System.out.println(test + what + " answered " + got + ", due is " + want);
        }
    }

    /** Runs each method of a class that is marked as a test; one without a check fails. */
    void runEach(Class<?> tests) throws ReflectiveOperationException {
        Method[] methods = tests.getDeclaredMethods();
        Arrays.sort(methods, Comparator.comparing(Method::getName));
        for (Method m : methods) {
            Sentence sentence = m.getAnnotation(Sentence.class);
            if (sentence == null) {
                continue;
            }
            test = m.getName() + " (" + sentence.value() + "): ";
            int before = checks;
            m.setAccessible(true);
            try {
                m.invoke(null);
            } catch (InvocationTargetException e) {
                wrong++;
                System.out.println(test + "threw " + e.getCause());
            }
            due("makes checks", checks > before, true);
        }
        test = "";
        finish(tests.getSimpleName());
    }

    void due(String what, boolean got, boolean want) {
        due(what, got ? 1 : 0, want ? 1 : 0);
    }

    void finish(String name) {
        System.out.println(name + ": " + checks + " checks, " + wrong + " wrong");
        if (wrong != 0) {
            System.exit(1);
        }
    }

    /** Puts a text on the tape, behind what is there. */
    static void feed(StiltHerds x, String text) {
        int before = x.count(9);
        for (int i = 0; i < text.length(); i += 20) {
            int[] n = new int[5];
            for (int k = 0; k < 20; k++) {
                int at = i + k;
                n[k / 4] = n[k / 4] << 8 | (at < text.length() ? text.charAt(at) & 255 : 0);
            }
            x.feed(n[0], n[1], n[2], n[3], n[4]);
        }
        x.end(before + text.length());
    }

    static int moor(StiltHerds x, String text) {
        feed(x, text);
        return x.moor();
    }

    static int plan(StiltHerds x, String text) {
        feed(x, text);
        return x.plan();
    }

    static int holes(StiltHerds x, int... bytes) {
        StringBuilder text = new StringBuilder();
        for (int b : bytes) {
            text.append((char) b);
        }
        feed(x, text.toString());
        return x.holes();
    }

    /** A new object with a MOOR; the text must be one. */
    static StiltHerds on(String text) {
        StiltHerds x = new StiltHerds();
        if (moor(x, text) < 0) {
            throw new IllegalArgumentException("no moor: " + text);
        }
        return x;
    }

    /** Checks a text of a MOOR that has a FAULT: its place, its kind, and that the MOOR stays. */
    void moorFault(String text, int place, int kind) {
        StiltHerds x = on("row 1 2 3;law 7 8;herd old 1 0 9;");
        due("moor " + text, moor(x, text), -1 - place);
        due("fault of " + text, x.fault(), kind);
        due("columns stay behind " + text, x.count(0), 3);
        due("EACH stays behind " + text, x.count(2), 7);
        due("HERDS stay behind " + text, x.count(6), 1);
        due("the tape is empty behind " + text, x.count(9), 0);
    }

    void planFault(String text, int place, int kind) {
        StiltHerds x = on("row 1 2 3;row 1 2 3;herd ann 0 0 5;herd bob 1 1 9;");
        plan(x, "day;day;");
        due("plan " + text, plan(x, text), -1 - place);
        due("fault of " + text, x.fault(), kind);
        due("the plan stays behind " + text, x.count(8), 2);
        due("the tape is empty behind " + text, x.count(9), 0);
    }

    /** As moorFault(), with the place told by an @ ahead of it, which is no part of the text. */
    void moorFaultAt(String marked, int kind) {
        moorFault(marked.replace("@", ""), marked.indexOf('@'), kind);
    }

    void planFaultAt(String marked, int kind) {
        planFault(marked.replace("@", ""), marked.indexOf('@'), kind);
    }

    /** Checks a text that is a MOOR: how many LINES it has, and that there is no FAULT. */
    void moorLines(String text, int lines) {
        StiltHerds x = new StiltHerds();
        due("moor " + text, moor(x, text), lines);
        due("fault of " + text, x.fault(), 0);
    }

    void planLines(String text, int lines) {
        StiltHerds x = on("row 1 2 3;row 1 2 3;herd ann 0 0 5;herd bob 1 1 9;");
        due("plan " + text, plan(x, text), lines);
        due("fault of " + text, x.fault(), 0);
        due("LINES of the plan " + text, x.count(8), lines);
    }

    void noCell(StiltHerds x, int at, int what) {
        boolean thrown = false;
        try {
            x.cell(at, what);
        } catch (NoSuchElementException e) {
            thrown = true;
        }
        due("cell(" + at + ", " + what + ") throws", thrown, true);
    }

    void noHerd(StiltHerds x, int h, int what) {
        boolean thrown = false;
        try {
            x.herd(h, what);
        } catch (NoSuchElementException e) {
            thrown = true;
        }
        due("herd(" + h + ", " + what + ") throws", thrown, true);
    }

    /** A call answers NONE to each argument that names a thing there is none of. */
    void refuses(String call, int[] arguments, IntUnaryOperator of) {
        for (int n : arguments) {
            due(call + " of " + n, of.applyAsInt(n), -1);
        }
    }

    void refusesCells(String call, IntUnaryOperator of) {
        refuses(call, NO_CELLS, of);
    }

    void refusesNumbers(String call, IntUnaryOperator of) {
        refuses(call, NO_NUMBERS, of);
    }

    void refusesDays(String call, IntUnaryOperator of) {
        refuses(call, NO_DAYS, of);
    }

    void refusesHerds(String call, IntUnaryOperator of) {
        refuses(call, NO_HERDS, of);
    }
}
