import java.lang.reflect.InvocationTargetException;
import java.lang.reflect.Method;
import java.lang.reflect.Modifier;
import java.util.ArrayList;
import java.util.Collections;
import java.util.List;
import java.util.NoSuchElementException;
import java.util.Random;

/** Random runs of calls on StiltHerds and on Oracle, which must answer alike; the seeds are fixed. */
public final class RandomRunsTest {
    private static final String[] NAMES = {"a", "bo", "cat", "dove", "eider", "falcon", "gull", "hen", "ibis"};

    private final Random random;
    private final StiltHerds herds = new StiltHerds();
    private final Oracle oracle = new Oracle();
    private final List<String> log = new ArrayList<>();
    private int columns = 2;
    private int rows = 2;

    private RandomRunsTest(long seed) {
        random = new Random(seed);
    }

    private int pick(int n) {
        return random.nextInt(n);
    }

    private int among(int... choices) {
        return choices[pick(choices.length)];
    }

    // ---- texts

    private String cellText() {
        return pick(columns) + " " + pick(rows);
    }

    private String moorText() {
        StringBuilder out = new StringBuilder();
        columns = 2 + pick(among(2, 4, 9));
        rows = 1 + pick(among(2, 4, 10));
        int top = among(2, 6, 12, 40, 100);
        for (int y = 0; y < rows; y++) {
            out.append("row");
            for (int x = 0; x < columns; x++) {
                out.append(' ').append(pick(top));
            }
            out.append(";");
        }
        List<String> lines = new ArrayList<>();
        if (pick(3) > 0) {
            lines.add("law " + (1 + pick(6)) + " " + among(0, 5, 20, 99) + ";");
        }
        if (pick(2) > 0) {
            lines.add("timber " + pick(100) + ";");
        }
        if (pick(4) > 0) {
            lines.add("wolf " + cellText() + " " + pick(top) + ";");
        }
        for (String sort : new String[] {"water", "wind", "fog"}) {
            for (int d = 0; d < 30; d += 1 + pick(15)) {
                lines.add(sort + " " + d + " " + pick(top + 2 < 100 ? top + 2 : 100) + ";");
            }
        }
        for (String sort : new String[] {"door", "mud", "ladder"}) {
            List<Integer> cells = new ArrayList<>();
            for (int at = 0; at < rows * columns; at++) {
                cells.add(10 * (at / columns) + at % columns);
            }
            Collections.shuffle(cells, random);
            for (int at : cells.subList(0, Math.min(cells.size(), pick(pick(5) == 0 ? 14 : 6)))) {
                lines.add(sort + " " + at % 10 + " " + at / 10 + (sort.equals("ladder") ? "" : " " + pick(top)) + ";");
            }
        }
        int many = pick(10);
        for (int i = 0; i < many; i++) {
            lines.add("herd " + NAMES[i] + " " + cellText() + " " + pick(100) + "\n;");
        }
        for (String line : lines) {
            if (out.length() + line.length() < 890) {
                out.append(line);
            }
        }
        return out.toString();
    }

    private String planText() {
        StringBuilder out = new StringBuilder();
        for (int i = pick(31); i > 0; i--) {
            String who = NAMES[pick(pick(4) == 0 ? 9 : 2)];
            switch (pick(5)) {
                case 0:
                    out.append("go ").append(who).append(' ').append(cellText()).append(';');
                    break;
                case 1:
                    out.append("sell ").append(who).append(' ').append(1 + pick(30)).append(";\n");
                    break;
                case 2:
                    out.append("buy ").append(who).append(' ').append(1 + pick(30)).append(';');
                    break;
                case 3:
                    out.append("day ;");
                    break;
                default:
                    out.append("night ").append(1 + pick(20)).append(" ;");
            }
        }
        return out.toString();
    }

    /** Spoils a text at a few places, so that FAULTS of all kinds come up. */
    private String spoiled(String text) {
        StringBuilder out = new StringBuilder(text);
        for (int i = pick(3); i >= 0 && out.length() > 0; i--) {
            int at = pick(out.length());
            switch (pick(6)) {
                case 0:
                    out.deleteCharAt(at);
                    break;
                case 1:
                    out.insert(at, "; 09az.A\t ".charAt(pick(10)));
                    break;
                case 2:
                    out.setCharAt(at, "; 059nw".charAt(pick(7)));
                    break;
                case 3:
                    out.setLength(at);
                    break;
                case 4:
                    int line = out.indexOf(";", at) + 1;
                    out.insert(line, new String[] {"row 1 2;", "law 2 3;", "timber 3;", "wolf 0 0 9;",
                        "herd a 0 0 5;", "water 0 1;", "door 0 0 3;", "mud 1 0 1;", "ladder 0 0;", "day;",
                        "go a 0 0;", "night 21;", "sell a 0;", "row ;"}[pick(14)]);
                    break;
                default:
                    int from = out.indexOf(";", at) + 1;
                    int to = out.indexOf(";", from) + 1;
                    if (to > from) {
                        out.insert(from, out.substring(from, to));
                    }
            }
        }
        return out.toString();
    }

    private String padded(String text, int most) {
        StringBuilder out = new StringBuilder(text);
        int length = most - 3 + pick(8);
        while (out.length() < length) {
            out.insert(out.indexOf(";") + 1, pick(2) == 0 ? ' ' : '\n');
        }
        return out.toString();
    }

    private void feedText(String text) {
        int length = Math.min(text.length(), 940);
        for (int i = 0; i < length; i += 20) {
            Object[] numbers = new Object[5];
            for (int k = 0; k < 5; k++) {
                int number = 0;
                for (int b = 0; b < 4; b++) {
                    int at = i + 4 * k + b;
                    number = number << 8 | (at < length ? text.charAt(at) & 255 : 0);
                }
                numbers[k] = number;
            }
            call("feed", numbers);
        }
        call("end", length);
    }

    private void feedHoles() {
        StringBuilder out = new StringBuilder();
        for (int i = among(1, 1, 2, 3, 40, 41); i > 0; i--) {
            out.append((char) pick(pick(40) == 0 ? 11 : columns)).append((char) pick(pick(40) == 0 ? 11 : rows))
                .append((char) (3 + pick(among(2, 5, 20, 200))));
        }
        if (pick(10) == 0) {
            out.append('x');
        }
        feedText(out.toString());
    }

    // ---- calls

    private static Object answerOf(Object on, Method method, Object[] arguments) {
        try {
            return method.invoke(on, arguments);
        } catch (InvocationTargetException e) {
            if (e.getCause() instanceof NoSuchElementException
                && e.getCause().getStackTrace().length > 0) {
                return "throws";
            }
            throw new AssertionError(method.getName(), e.getCause());
        } catch (IllegalAccessException e) {
            throw new AssertionError(e);
        }
    }

    private Object call(String name, Object... arguments) {
        StringBuilder told = new StringBuilder(name).append('(');
        for (Object a : arguments) {
            told.append(a).append(' ');
        }
        log.add(told.append(')').toString());
        Object got = answerOf(herds, methodOf(StiltHerds.class, name), arguments);
        Object due = answerOf(oracle, methodOf(Oracle.class, name), arguments);
        if (!got.equals(due)) {
            for (String line : log) {
                System.out.println(line);
            }
            throw new AssertionError("answered " + got + ", the oracle " + due + ": " + told + " " + oracle);
        }
        return got;
    }

    private static Method methodOf(Class<?> type, String name) {
        for (Method m : type.getDeclaredMethods()) {
            if (m.getName().equals(name) && !Modifier.isPrivate(m.getModifiers())) {
                m.setAccessible(true);
                return m;
            }
        }
        throw new AssertionError(name);
    }

    /** Mostly of the kind that fits, at times of any. */
    private int cellArgument() {
        return pick(25) == 0 ? among(-1, 4, 40, 99, 100, 1000, Integer.MIN_VALUE, Integer.MAX_VALUE)
            : 10 * pick(rows) + pick(columns);
    }

    private int herdArgument() {
        return pick(20) == 0 ? among(-1, 8, 100, Integer.MIN_VALUE) : pick(pick(4) == 0 ? 8 : 3);
    }

    private int heightArgument() {
        return pick(25) == 0 ? among(-1, 99, 100, Integer.MAX_VALUE) : pick(among(4, 12, 25, 100));
    }

    private int dayArgument() {
        return pick(20) == 0 ? among(-1, 29, 30, Integer.MIN_VALUE) : pick(30);
    }

    private void randomCall() {
        int c = cellArgument();
        int d = cellArgument();
        int h = heightArgument();
        int day = dayArgument();
        int herd = herdArgument();
        int seed = random.nextInt();
        switch (pick(49)) {
            case 0: call("count", pick(13) - 1); break;
            case 1: call("cell", c, pick(8) - 1); break;
            case 2: call("herd", herd, pick(7) - 1); break;
            case 3: call("on", day, pick(5) - 1); break;
            case 4: call("timber"); break;
            case 5: call("flock"); break;
            case 6: call("deepest", day); break;
            case 7: call("near", herd, heightArgument()); break;
            case 8: call("stands", c, h, day); break;
            case 9: call("steps", c, d, h, day); break;
            case 10: call("risk", c, d, h, day); break;
            case 11: call("walk", c, d, h, seed); toldOf("way"); break;
            case 12: call("ladders", c, d, h, day); break;
            case 13: call("write", c, d, h, day); break;
            case 14: call("write", c, d, h, day); toldOf("byteAt"); break;
            case 15: call("passes", c, d, day, pick(5) - 1); break;
            case 16: call("reach", c, h, day); break;
            case 17: call("sees", herd); break;
            case 18: call("saw", c, h); break;
            case 19: call("handed", herd, herdArgument()); break;
            case 20: call("fires"); break;
            case 21: call("wolf", pick(5) - 1); break;
            case 22: case 23: call("go", herd, c); break;
            case 24: case 25: call("trade", herd, pick(10) == 0 ? among(0, 99, 100, -5) : pick(60), pick(15) == 0 ? 2 : pick(2)); break;
            case 26: call("day"); break;
            case 27: call("night", pick(10) == 0 ? among(0, -1, 21) : 1 + pick(20)); break;
            case 28: call("undo"); break;
            case 29: call("low", herd, c); break;
            case 30: call("high", herd, c); break;
            case 31: call("lost", herd, pick(23) - 1); break;
            case 32: feedHoles(); call("holes"); break;
            case 33: call("seats", pick(10) == 0 ? among(-1, 99, 100) : pick(25)); break;
            case 34: call("seats", pick(30)); toldOf("seat"); break;
            case 35: call("cut", c, h, day, heightArgument()); break;
            case 36: call("drowns", c, d, h, day); break;
            case 37: call("dry", c, d, h); break;
            case 38: call("widest"); break;
            case 39: call("who", c, d); break;
            case 40: call("walk", c, d, h, seed); break;
            case 41: call("falls", c, d, h, pick(10) == 0 ? among(0, 200, 201, -1) : 1 + pick(200), seed); break;
            case 42: feedText(planText()); call("plan"); call("fault"); break;
            case 43: call("judge", pick(15) == 0 ? among(-1, 2) : pick(2)); allJudged(); break;
            case 44: call("judged", pick(8) - 1); break;
            case 45: call("image", pick(4) - 1); break;
            case 46: call("restore", pick(4) - 1); break;
            case 47: call("fault"); break;
            default: call("feed", seed, random.nextInt(), 0, -1, 7); call("end", pick(22) - 1); break;
        }
    }

    private void toldOf(String name) {
        for (int i = -1; i < 40; i++) {
            call(name, i);
        }
    }

    private void allJudged() {
        for (int what = -1; what <= 6; what++) {
            call("judged", what);
        }
    }

    private void allState() {
        for (int what = 0; what <= 10; what++) {
            call("count", what);
        }
        for (int at = 0; at < 100; at++) {
            for (int what = 0; what <= 5; what++) {
                call("cell", at, what);
            }
        }
        for (int h = 0; h < 8; h++) {
            for (int what = 0; what <= 4; what++) {
                call("herd", h, what);
            }
        }
    }

    private void faults(String text, String as) {
        feedText(text);
        call(as);
        call("fault");
    }

    private void run() {
        for (int i = 0; i < 6; i++) {
            String text = moorText();
            faults(spoiled(text), "moor");
            faults(padded(text, 900), "moor");
            faults(padded(spoiled(text), 900), "moor");
            faults(text, "moor");
            faults(spoiled(planText()), "plan");
            faults(padded(planText(), 400), "plan");
            allState();
            for (int k = 0; k < 60; k++) {
                randomCall();
            }
            allState();
        }
    }

    public static void main(String[] args) {
        int runs = args.length > 0 ? Integer.parseInt(args[0]) : 100;
        for (int seed = 0; seed < runs; seed++) {
            new RandomRunsTest(seed).run();
        }
        System.out.println(runs + " random runs agree with the oracle");
    }
}
