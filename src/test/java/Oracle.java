import java.util.ArrayDeque;
import java.util.ArrayList;
import java.util.Arrays;
import java.util.HashMap;
import java.util.HashSet;
import java.util.LinkedHashMap;
import java.util.List;
import java.util.Map;
import java.util.NoSuchElementException;
import java.util.Set;
import java.util.TreeMap;

/** The document told a second time, in the slowest and plainest way, for RandomRunsTest to compare with. */
final class Oracle {
    private static final int NONE = -1;
    private static final int[] DX = {0, 1, 0, -1};
    private static final int[] DY = {-1, 0, 1, 0};
    private static final List<String> MOOR_WORDS =
        List.of("row", "law", "timber", "water", "wind", "fog", "door", "mud", "ladder", "herd", "wolf");
    private static final List<String> PLAN_WORDS = List.of("go", "sell", "buy", "day", "night");

    /** A MOOR as told, and all that ACTS change, with the PLAN. */
    private static final class State {
        List<int[]> rows = new ArrayList<>();
        int each = 1;
        int most = 99;
        int wood = 0;
        Map<String, TreeMap<Integer, Integer>> weather = new HashMap<>();
        Map<String, Map<Integer, Integer>> things = new HashMap<>();
        LinkedHashMap<String, Integer> names = new LinkedHashMap<>();
        List<Integer> cells = new ArrayList<>();
        List<Integer> heads = new ArrayList<>();
        boolean hasWolf;
        int wolfCell;
        int wolfDepth;
        int taken;
        int day;
        List<String[]> plan = new ArrayList<>();

        State() {
            for (String sort : List.of("water", "wind", "fog")) {
                weather.put(sort, new TreeMap<>());
            }
            for (String sort : List.of("door", "mud", "ladder")) {
                things.put(sort, new TreeMap<>());
            }
        }

        State copy() {
            State s = new State();
            s.rows = rows;
            s.each = each;
            s.most = most;
            s.wood = wood;
            s.weather = weather;
            s.things = things;
            s.names = names;
            s.cells = new ArrayList<>(cells);
            s.heads = new ArrayList<>(heads);
            s.hasWolf = hasWolf;
            s.wolfCell = wolfCell;
            s.wolfDepth = wolfDepth;
            s.taken = taken;
            s.day = day;
            s.plan = plan;
            return s;
        }

        int columns() {
            return rows.isEmpty() ? 0 : rows.get(0).length;
        }

        boolean isCell(int at) {
            return at >= 0 && at / 10 < rows.size() && at % 10 < columns();
        }

        int ground(int at) {
            return rows.get(at / 10)[at % 10];
        }

        int on(String sort, int d) {
            Map.Entry<Integer, Integer> e = weather.get(sort).floorEntry(d);
            return e == null ? 0 : e.getValue();
        }

        int stilts(int n) {
            return Math.min(n / each, most);
        }

        int stiltsOf(int h) {
            return stilts(heads.get(h));
        }

        int depth(int at, int water) {
            return Math.max(0, water - ground(at));
        }

        boolean stands(int at, int h, int water) {
            Integer door = things.get("door").get(at);
            Integer mud = things.get("mud").get(at);
            return depth(at, water) <= h && (door == null || door >= h) && (mud == null || mud <= h);
        }

        int next(int at, int k) {
            int x = at % 10 + DX[k];
            int y = at / 10 + DY[k];
            return x < 0 || y < 0 || x >= columns() || y >= rows.size() ? NONE : 10 * y + x;
        }

        List<Integer> allCells() {
            List<Integer> all = new ArrayList<>();
            for (int y = 0; y < rows.size(); y++) {
                for (int x = 0; x < columns(); x++) {
                    all.add(10 * y + x);
                }
            }
            return all;
        }

        /** STEPS from a CELL, by relaxing until nothing changes. */
        Map<Integer, Integer> steps(int from, int h, int water) {
            Map<Integer, Integer> far = new HashMap<>();
            if (!stands(from, h, water)) {
                return far;
            }
            far.put(from, 0);
            boolean changed = true;
            while (changed) {
                changed = false;
                for (int at : allCells()) {
                    for (int k = 0; k < 4 && far.containsKey(at); k++) {
                        int n = next(at, k);
                        if (n != NONE && stands(n, h, water)
                            && far.getOrDefault(n, 1000) > far.get(at) + 1) {
                            far.put(n, far.get(at) + 1);
                            changed = true;
                        }
                    }
                }
            }
            return far;
        }

        int steps(int from, int to, int h, int water) {
            return steps(from, h, water).getOrDefault(to, NONE);
        }

        Map<Integer, Integer> wolfSteps() {
            Map<Integer, Integer> far = new HashMap<>();
            ArrayDeque<Integer> queue = new ArrayDeque<>();
            far.put(wolfCell, 0);
            queue.add(wolfCell);
            int water = on("water", day);
            while (!queue.isEmpty()) {
                int at = queue.remove();
                for (int k = 0; k < 4; k++) {
                    int n = next(at, k);
                    if (n != NONE && !far.containsKey(n) && depth(n, water) <= wolfDepth) {
                        far.put(n, far.get(at) + 1);
                        queue.add(n);
                    }
                }
            }
            return far;
        }

        int night(int rounds) {
            int before = taken;
            for (int i = 0; i < rounds; i++) {
                round();
            }
            return taken - before;
        }

        private void round() {
            Map<Integer, Integer> far = wolfSteps();
            int prey = NONE;
            for (int h = 0; h < cells.size(); h++) {
                if (heads.get(h) > 0 && far.containsKey(cells.get(h))
                    && (prey == NONE || far.get(cells.get(h)) < far.get(cells.get(prey)))) {
                    prey = h;
                }
            }
            if (prey == NONE) {
                return;
            }
            int away = far.get(cells.get(prey));
            if (away == 0) {
                heads.set(prey, heads.get(prey) - 1);
                taken++;
                return;
            }
            int home = wolfCell;
            for (int k = 0; k < 4; k++) {
                int n = next(home, k);
                if (n == NONE || depth(n, on("water", day)) > wolfDepth) {
                    continue;
                }
                wolfCell = n;
                if (wolfSteps().getOrDefault(cells.get(prey), 1000) == away - 1) {
                    return;
                }
            }
            throw new AssertionError("no step of the wolf");
        }

        int risk(int a, int b, int h, int wind) {
            return wind + Math.abs(ground(a) - ground(b)) * h / 10;
        }

        /** All best WAYS from each CELL to the end, as texts "risk, steps, path", kept least by path. */
        List<Integer> safest(int from, int to, int h, int d) {
            int water = on("water", d);
            int wind = on("wind", d);
            if (!stands(from, h, water) || !stands(to, h, water)) {
                return null;
            }
            Map<Integer, long[]> cost = new HashMap<>();
            cost.put(to, new long[] {0, 0});
            boolean changed = true;
            while (changed) {
                changed = false;
                for (int at : allCells()) {
                    for (int k = 0; k < 4 && stands(at, h, water); k++) {
                        int n = next(at, k);
                        if (n == NONE || !cost.containsKey(n)) {
                            continue;
                        }
                        long[] c = {cost.get(n)[0] + risk(at, n, h, wind), cost.get(n)[1] + 1};
                        long[] old = cost.get(at);
                        if (old == null || c[0] < old[0] || c[0] == old[0] && c[1] < old[1]) {
                            cost.put(at, c);
                            changed = true;
                        }
                    }
                }
            }
            if (!cost.containsKey(from)) {
                return null;
            }
            List<Integer> path = new ArrayList<>(List.of(from));
            int at = from;
            while (at != to) {
                for (int k = 0; k < 4; k++) {
                    int n = next(at, k);
                    if (n != NONE && cost.containsKey(n)
                        && cost.get(n)[0] + risk(at, n, h, wind) == cost.get(at)[0]
                        && cost.get(n)[1] + 1 == cost.get(at)[1]) {
                        path.add(n);
                        at = n;
                        break;
                    }
                }
            }
            return path;
        }

        int ladders(int from, int to, int h, int water) {
            if (!stands(from, h, water)) {
                return NONE;
            }
            Map<Integer, Integer> far = new HashMap<>();
            ArrayDeque<Integer> queue = new ArrayDeque<>();
            come(from, h, 0, water, far, queue);
            while (!queue.isEmpty()) {
                int state = queue.remove();
                if (state / 100 == to) {
                    return far.get(state);
                }
                for (int k = 0; k < 4; k++) {
                    int n = next(state / 100, k);
                    if (n != NONE && stands(n, state % 100, water)) {
                        come(n, state % 100, far.get(state) + 1, water, far, queue);
                    }
                }
            }
            return NONE;
        }

        private void come(int at, int h, int away, int water, Map<Integer, Integer> far, ArrayDeque<Integer> queue) {
            for (int g = 0; g < 100; g++) {
                boolean may = g == h || things.get("ladder").containsKey(at) && stands(at, g, water);
                if (may && !far.containsKey(100 * at + g)) {
                    far.put(100 * at + g, away);
                    queue.add(100 * at + g);
                }
            }
        }

        int eye(int h) {
            return ground(cells.get(h)) + stiltsOf(h);
        }

        boolean clear(int a, int eyeA, int b, int eyeB) {
            int fog = on("fog", day);
            if (a == b || eyeA <= fog || eyeB <= fog) {
                return false;
            }
            int dx = b % 10 - a % 10;
            int dy = b / 10 - a / 10;
            if (dx != 0 && dy != 0 && dx != dy && dx != -dy) {
                return false;
            }
            int x = a % 10 + Integer.signum(dx);
            int y = a / 10 + Integer.signum(dy);
            while (10 * y + x != b) {
                if (ground(10 * y + x) >= Math.min(eyeA, eyeB)) {
                    return false;
                }
                x += Integer.signum(dx);
                y += Integer.signum(dy);
            }
            return true;
        }

        boolean sees(int g, int h) {
            return clear(cells.get(g), eye(g), cells.get(h), eye(h));
        }
    }

    /** A FAULT: its kind and its place. */
    private static final class Fault extends RuntimeException {
        private static final long serialVersionUID = 1L;
        final int kind;
        final int place;

        Fault(int kind, int place) {
            this.kind = kind;
            this.place = place;
        }
    }

    private final StringBuilder tape = new StringBuilder();
    private State s = new State();
    private final State[] images = new State[2];
    private final ArrayList<State> past = new ArrayList<>();
    private int fault = 0;
    private String text = "";
    private List<Integer> walked = new ArrayList<>();
    private List<Integer> order = new ArrayList<>();
    private int[] verdict = null;

    // ---- texts

    private int pos;
    private int limit;
    private int place;

    /** The next TOKEN; "" at the end, "?" for none. */
    private String token() {
        while (pos < tape.length() && (tape.charAt(pos) == ' ' || tape.charAt(pos) == '\n')) {
            pos++;
        }
        if (tape.length() > limit && pos >= limit) {
            place = limit;
            return "?";
        }
        place = pos;
        if (pos == tape.length()) {
            return "";
        }
        if (tape.charAt(pos) == ';') {
            pos++;
            return ";";
        }
        int start = pos;
        while (pos < tape.length() && String.valueOf(tape.charAt(pos)).matches("[a-z0-9]")) {
            pos++;
        }
        String run = tape.substring(start, pos);
        return run.matches("[a-z]{1,6}|[0-9]{1,2}") ? run : "?";
    }

    private int number(int least, int most) {
        String t = token();
        if (!t.matches("[0-9]+")) {
            throw new Fault(1, place);
        }
        int n = Integer.parseInt(t);
        if (n < least || n > most) {
            throw new Fault(2, place);
        }
        return n;
    }

    private int cellOf(State m) {
        int x = number(0, m.columns() - 1);
        return 10 * number(0, m.rows.size() - 1) + x;
    }

    private String name() {
        String t = token();
        if (!t.matches("[a-z]+") || MOOR_WORDS.contains(t) || PLAN_WORDS.contains(t)) {
            throw new Fault(1, place);
        }
        return t;
    }

    private void semicolon() {
        if (!token().equals(";")) {
            throw new Fault(1, place);
        }
    }

    private void refuse(boolean condition, int kind) {
        if (condition) {
            throw new Fault(kind, place);
        }
    }

    private void readRow(State m) {
        List<Integer> row = new ArrayList<>();
        String t = token();
        while (!t.equals(";") || row.isEmpty()) {
            refuse(!t.matches("[0-9]+"), 1);
            refuse(row.size() == (m.rows.isEmpty() ? 10 : m.columns()), 4);
            row.add(Integer.parseInt(t));
            t = token();
        }
        refuse(row.size() < (m.rows.isEmpty() ? 2 : m.columns()), 4);
        m.rows.add(row.stream().mapToInt(i -> i).toArray());
    }

    private int readMoor(State m) {
        Set<String> once = new HashSet<>();
        int lines = 0;
        for (String word = token(); !word.isEmpty(); word = token()) {
            refuse(!MOOR_WORDS.contains(word), 1);
            if (word.equals("row")) {
                refuse(lines > m.rows.size(), 3);
                refuse(m.rows.size() == 10, 4);
                readRow(m);
            } else {
                refuse(List.of("law", "timber", "wolf").contains(word) && !once.add(word), 3);
                readOther(m, word);
                semicolon();
            }
            lines++;
        }
        return lines;
    }

    private void readOther(State m, String word) {
        if (word.equals("law")) {
            m.each = number(1, 99);
            m.most = number(0, 99);
        } else if (word.equals("timber")) {
            m.wood = number(0, 99);
        } else if (m.weather.containsKey(word)) {
            int d = number(0, 29);
            refuse(m.weather.get(word).containsKey(d), 3);
            m.weather.get(word).put(d, number(0, 99));
        } else if (m.things.containsKey(word)) {
            refuse(m.things.get(word).size() == 12, 4);
            int at = cellOf(m);
            refuse(m.things.get(word).containsKey(at), 3);
            m.things.get(word).put(at, word.equals("ladder") ? 0 : number(0, 99));
        } else if (word.equals("herd")) {
            refuse(m.names.size() == 8, 4);
            String n = name();
            refuse(m.names.containsKey(n), 3);
            m.cells.add(cellOf(m));
            m.heads.add(number(0, 99));
            m.names.put(n, m.names.size());
        } else {
            m.wolfCell = cellOf(m);
            m.wolfDepth = number(0, 99);
            m.hasWolf = true;
        }
    }

    private int readPlan(List<String[]> lines) {
        for (String word = token(); !word.isEmpty(); word = token()) {
            refuse(!PLAN_WORDS.contains(word), 1);
            refuse(lines.size() == 30, 4);
            int h = NONE;
            int n = NONE;
            if (List.of("go", "sell", "buy").contains(word)) {
                String who = name();
                refuse(!s.names.containsKey(who), 3);
                h = s.names.get(who);
            }
            if (word.equals("go")) {
                n = cellOf(s);
            } else if (!word.equals("day")) {
                n = number(1, word.equals("night") ? 20 : 99);
            }
            semicolon();
            lines.add(new String[] {word, "" + h, "" + n});
        }
        return lines.size();
    }

    int moor() {
        State m = new State();
        pos = 0;
        limit = 900;
        fault = 0;
        try {
            int lines = readMoor(m);
            s = m;
            past.clear();
            return lines;
        } catch (Fault f) {
            fault = f.kind;
            return -1 - f.place;
        } finally {
            tape.setLength(0);
        }
    }

    int plan() {
        List<String[]> lines = new ArrayList<>();
        pos = 0;
        limit = 400;
        fault = 0;
        try {
            readPlan(lines);
            s.plan = lines;
            return lines.size();
        } catch (Fault f) {
            fault = f.kind;
            return -1 - f.place;
        } finally {
            tape.setLength(0);
        }
    }

    int feed(int a, int b, int c, int d, int e) {
        if (tape.length() > 920) {
            return NONE;
        }
        for (int number : new int[] {a, b, c, d, e}) {
            for (int i = 3; i >= 0; i--) {
                tape.append((char) ((number >> (8 * i)) & 255));
            }
        }
        return tape.length();
    }

    boolean end(int n) {
        if (n < 0 || n > tape.length()) {
            return false;
        }
        tape.setLength(n);
        return true;
    }

    int fault() {
        return fault;
    }

    // ---- what there is

    private boolean isHerd(int h) {
        return h >= 0 && h < s.cells.size();
    }

    private boolean is99(int n) {
        return n >= 0 && n <= 99;
    }

    private boolean isDay(int d) {
        return d >= 0 && d <= 29;
    }

    private boolean such(int from, int to, int h, int d) {
        return s.isCell(from) && s.isCell(to) && is99(h) && isDay(d);
    }

    int cell(int at, int what) {
        if (!s.isCell(at) || what < 0 || what > 5) {
            throw new NoSuchElementException();
        }
        int bits = 0;
        for (int h = 0; h < s.cells.size(); h++) {
            bits |= s.cells.get(h) == at ? 1 << h : 0;
        }
        return new int[] {s.ground(at), s.depth(at, s.on("water", s.day)),
            s.things.get("door").getOrDefault(at, NONE), s.things.get("mud").getOrDefault(at, NONE), bits,
            s.hasWolf && s.wolfCell == at ? 1 : 0}[what];
    }

    int herd(int h, int what) {
        if (!isHerd(h) || what < 0 || what > 4) {
            throw new NoSuchElementException();
        }
        int stilts = s.stiltsOf(h);
        return new int[] {s.cells.get(h), s.heads.get(h), stilts, stilts == 0 ? 0 : 2 * stilts + s.wood,
            s.eye(h)}[what];
    }

    int on(int day, int what) {
        if (!isDay(day) || what < 0 || what > 2) {
            return NONE;
        }
        return s.on(List.of("water", "wind", "fog").get(what), day);
    }

    int timber() {
        int all = 0;
        for (int h = 0; h < s.cells.size(); h++) {
            all += herd(h, 3);
        }
        return all;
    }

    int flock() {
        return s.heads.stream().mapToInt(i -> i).sum();
    }

    int deepest(int day) {
        if (!isDay(day)) {
            return NONE;
        }
        int best = NONE;
        for (int at : s.allCells()) {
            if (best == NONE || s.depth(at, s.on("water", day)) > s.depth(best, s.on("water", day))) {
                best = at;
            }
        }
        return best;
    }

    int count(int what) {
        int[] all = {s.columns(), s.rows.size(), s.each, s.most, s.things.get("door").size(),
            s.things.get("mud").size(), s.cells.size(), s.day, s.plan.size(), tape.length(),
            s.things.get("ladder").size()};
        return what < 0 || what > 10 ? NONE : all[what];
    }

    // ---- ways

    int near(int h, int n) {
        if (!isHerd(h) || !is99(n)) {
            return NONE;
        }
        Map<Integer, Integer> far = s.steps(s.cells.get(h), s.stiltsOf(h), s.on("water", s.day));
        int bits = 0;
        for (int g = 0; g < s.cells.size(); g++) {
            bits |= g != h && far.getOrDefault(s.cells.get(g), 1000) <= n ? 1 << g : 0;
        }
        return bits;
    }

    int stands(int at, int h, int day) {
        return !such(at, at, h, day) ? NONE : s.stands(at, h, s.on("water", day)) ? 1 : 0;
    }

    int steps(int from, int to, int h, int day) {
        return such(from, to, h, day) ? s.steps(from, to, h, s.on("water", day)) : NONE;
    }

    int risk(int from, int to, int h, int day) {
        List<Integer> path = such(from, to, h, day) ? s.safest(from, to, h, day) : null;
        if (path == null) {
            return NONE;
        }
        int sum = 0;
        for (int i = 1; i < path.size(); i++) {
            sum += s.risk(path.get(i - 1), path.get(i), h, s.on("wind", day));
        }
        return sum;
    }

    int way(int i) {
        return i >= 0 && i < walked.size() ? walked.get(i) : NONE;
    }

    int ladders(int from, int to, int h, int day) {
        return such(from, to, h, day) ? s.ladders(from, to, h, s.on("water", day)) : NONE;
    }

    int write(int from, int to, int h, int day) {
        int n = steps(from, to, h, day);
        if (n == NONE) {
            return NONE;
        }
        StringBuilder out = new StringBuilder();
        int at = from;
        for (int left = n - 1; left >= 0; left--) {
            for (int k = 0; k < 4; k++) {
                int to2 = s.next(at, k);
                if (to2 != NONE && s.steps(to2, to, h, s.on("water", day)) == left) {
                    out.append("nesw".charAt(k));
                    at = to2;
                    break;
                }
            }
        }
        text = out.toString();
        return n;
    }

    int byteAt(int i) {
        return i >= 0 && i < text.length() ? text.charAt(i) : NONE;
    }

    int passes(int from, int to, int day, int what) {
        if (!such(from, to, 0, day) || what < 0 || what > 2) {
            return NONE;
        }
        List<Integer> all = new ArrayList<>();
        for (int h = 0; h < 100; h++) {
            if (s.steps(from, to, h, s.on("water", day)) != NONE) {
                all.add(h);
            }
        }
        if (what == 0) {
            return all.size();
        }
        return all.isEmpty() ? NONE : all.get(what == 1 ? 0 : all.size() - 1);
    }

    int reach(int from, int h, int day) {
        return such(from, from, h, day) ? s.steps(from, h, s.on("water", day)).size() : NONE;
    }

    int widest() {
        int best = NONE;
        for (int h = 0; h < s.cells.size(); h++) {
            if (best == NONE || reach(s.cells.get(h), s.stiltsOf(h), s.day)
                > reach(s.cells.get(best), s.stiltsOf(best), s.day)) {
                best = h;
            }
        }
        return best;
    }

    int who(int from, int to) {
        if (!such(from, to, 0, 0)) {
            return NONE;
        }
        int bits = 0;
        for (int h = 0; h < s.cells.size(); h++) {
            bits |= steps(from, to, s.stiltsOf(h), s.day) != NONE ? 1 << h : 0;
        }
        return bits;
    }

    int low(int h, int to) {
        if (!isHerd(h) || !s.isCell(to)) {
            return NONE;
        }
        for (int n = s.heads.get(h); n >= 0; n--) {
            if (steps(s.cells.get(h), to, s.stilts(n), s.day) != NONE) {
                return s.heads.get(h) - n;
            }
        }
        return NONE;
    }

    int high(int h, int to) {
        if (!isHerd(h) || !s.isCell(to)) {
            return NONE;
        }
        for (int n = s.heads.get(h); n <= 99; n++) {
            if (steps(s.cells.get(h), to, s.stilts(n), s.day) != NONE) {
                return n - s.heads.get(h);
            }
        }
        return NONE;
    }

    int cut(int from, int h, int day, int n) {
        if (!such(from, from, h, day) || !is99(n)) {
            return NONE;
        }
        Set<Integer> cells = new HashSet<>(s.steps(from, h, s.on("water", day)).keySet());
        cells.removeAll(s.steps(from, h, s.on("water", day) + n).keySet());
        return cells.size();
    }

    int drowns(int from, int to, int h, int day) {
        if (steps(from, to, h, day) == NONE) {
            return NONE;
        }
        for (int n = 0; n <= 99; n++) {
            if (s.steps(from, to, h, s.on("water", day) + n) == NONE) {
                return n;
            }
        }
        return NONE;
    }

    int dry(int from, int to, int h) {
        for (int d = s.day; d <= 29; d++) {
            if (steps(from, to, h, d) != NONE) {
                return d;
            }
        }
        return NONE;
    }

    // ---- signals

    int sees(int h) {
        if (!isHerd(h)) {
            return NONE;
        }
        int bits = 0;
        for (int g = 0; g < s.cells.size(); g++) {
            bits |= s.sees(h, g) ? 1 << g : 0;
        }
        return bits;
    }

    int saw(int at, int inches) {
        if (!s.isCell(at) || !is99(inches)) {
            return NONE;
        }
        int bits = 0;
        for (int g = 0; g < s.cells.size(); g++) {
            boolean there = s.cells.get(g) == at;
            bits |= there || s.clear(s.cells.get(g), s.eye(g), at, s.ground(at) + inches) ? 1 << g : 0;
        }
        return bits;
    }

    int handed(int from, int to) {
        if (!isHerd(from) || !isHerd(to)) {
            return NONE;
        }
        int n = s.cells.size();
        int[][] far = new int[n][n];
        for (int i = 0; i < n; i++) {
            for (int j = 0; j < n; j++) {
                far[i][j] = i == j ? 0 : s.sees(i, j) ? 1 : 1000;
            }
        }
        for (int k = 0; k < n; k++) {
            for (int i = 0; i < n; i++) {
                for (int j = 0; j < n; j++) {
                    far[i][j] = Math.min(far[i][j], far[i][k] + far[k][j]);
                }
            }
        }
        return far[from][to] >= 1000 ? NONE : far[from][to];
    }

    int fires() {
        int n = s.cells.size();
        int best = (1 << n) - 1;
        for (int set = (1 << n) - 1; set >= 0; set--) {
            boolean all = true;
            for (int to = 0; to < n; to++) {
                boolean told = false;
                for (int from = 0; from < n; from++) {
                    told |= (set >> from & 1) == 1 && handed(from, to) != NONE;
                }
                all &= told;
            }
            if (all && Integer.bitCount(set) <= Integer.bitCount(best)) {
                best = set;
            }
        }
        return best;
    }

    // ---- the wolf, holes, seats, walks

    int wolf(int what) {
        return !s.hasWolf || what < 0 || what > 2 ? NONE
            : new int[] {s.wolfCell, s.wolfDepth, s.taken}[what];
    }

    int lost(int h, int n) {
        if (!isHerd(h) || n < 1 || n > 20 || !s.hasWolf) {
            return NONE;
        }
        State t = s.copy();
        t.night(n);
        return s.heads.get(h) - t.heads.get(h);
    }

    int holes() {
        String told = tape.toString();
        tape.setLength(0);
        if (told.isEmpty() || told.length() % 3 != 0 || told.length() > 120) {
            return NONE;
        }
        int bits = (1 << s.cells.size()) - 1;
        for (int i = 0; i < told.length(); i += 3) {
            if (told.charAt(i) >= s.columns() || told.charAt(i + 1) >= s.rows.size()) {
                return NONE;
            }
            int at = 10 * told.charAt(i + 1) + told.charAt(i);
            for (int h = 0; h < s.cells.size(); h++) {
                int hole = s.stiltsOf(h) / 5 + 3 + s.things.get("mud").getOrDefault(at, 0) / 2;
                if (hole != told.charAt(i + 2) || stands(at, s.stiltsOf(h), s.day) != 1) {
                    bits &= ~(1 << h);
                }
            }
        }
        return bits;
    }

    private int seatOn(List<Integer> sitting, int inches, List<Integer> first) {
        if (sitting.size() == s.cells.size()) {
            if (first.isEmpty()) {
                first.addAll(sitting);
            }
            return 1;
        }
        int sum = 0;
        for (int h = 0; h < s.cells.size(); h++) {
            int last = sitting.isEmpty() ? h : sitting.get(sitting.size() - 1);
            if (!sitting.contains(h) && Math.abs(s.stiltsOf(h) - s.stiltsOf(last)) <= inches) {
                sitting.add(h);
                sum += seatOn(sitting, inches, first);
                sitting.remove(sitting.size() - 1);
            }
        }
        return sum;
    }

    int seats(int inches) {
        if (!is99(inches)) {
            return NONE;
        }
        List<Integer> first = new ArrayList<>();
        int n = seatOn(new ArrayList<>(), inches, first);
        if (n > 0) {
            order = first;
        }
        return n;
    }

    int seat(int i) {
        return i >= 0 && i < order.size() ? order.get(i) : NONE;
    }

    private int fall(List<Integer> path, int h, int seed) {
        int x = seed;
        for (int i = 1; i < path.size(); i++) {
            x = x * 1103515245 + 12345;
            if ((x >>> 8) % 100 < s.risk(path.get(i - 1), path.get(i), h, s.on("wind", s.day))) {
                return i;
            }
        }
        return 0;
    }

    int walk(int from, int to, int h, int seed) {
        List<Integer> path = such(from, to, h, 0) ? s.safest(from, to, h, s.day) : null;
        if (path == null) {
            return NONE;
        }
        walked = path;
        return fall(path, h, seed);
    }

    int falls(int from, int to, int h, int n, int seed) {
        List<Integer> path = such(from, to, h, 0) && n >= 1 && n <= 200 ? s.safest(from, to, h, s.day) : null;
        if (path == null) {
            return NONE;
        }
        int sum = 0;
        for (int i = 0; i < n; i++) {
            sum += fall(path, h, seed + i) > 0 ? 1 : 0;
        }
        return sum;
    }

    // ---- acts

    private int stepsGone;

    private int act(State t, String word, int h, int n) {
        switch (word) {
            case "go":
                int steps = t.steps(t.cells.get(h), n, t.stiltsOf(h), t.on("water", t.day));
                if (steps == NONE) {
                    return 1;
                }
                stepsGone += steps;
                t.cells.set(h, n);
                return 0;
            case "sell":
                if (t.heads.get(h) < n) {
                    return 2;
                }
                t.heads.set(h, t.heads.get(h) - n);
                return 0;
            case "buy":
                if (t.heads.get(h) + n > 99) {
                    return 3;
                }
                t.heads.set(h, t.heads.get(h) + n);
                return 0;
            case "day":
                if (t.day == 29) {
                    return 4;
                }
                t.day++;
                return 0;
            default:
                if (!t.hasWolf) {
                    return 5;
                }
                t.night(n);
                return 0;
        }
    }

    private void keep(State t) {
        past.add(s);
        if (past.size() > 8) {
            past.remove(0);
        }
        s = t;
    }

    private int doAct(String word, int h, int n) {
        State t = s.copy();
        int wrong = act(t, word, h, n);
        if (wrong == 0) {
            keep(t);
        }
        return wrong;
    }

    int go(int h, int to) {
        return isHerd(h) && s.isCell(to) ? doAct("go", h, to) : NONE;
    }

    int trade(int h, int n, int buys) {
        if (!isHerd(h) || n < 1 || n > 99 || buys < 0 || buys > 1) {
            return NONE;
        }
        return doAct(buys == 1 ? "buy" : "sell", h, n);
    }

    int day() {
        return doAct("day", 0, 0) == 0 ? s.day : NONE;
    }

    int night(int n) {
        int before = s.taken;
        return n >= 1 && n <= 20 && doAct("night", 0, n) == 0 ? s.taken - before : NONE;
    }

    int undo() {
        if (past.isEmpty()) {
            return NONE;
        }
        List<String[]> plan = s.plan;
        s = past.remove(past.size() - 1);
        s.plan = plan;
        return past.size();
    }

    int judge(int lives) {
        if (lives != 0 && lives != 1) {
            return -2;
        }
        State t = s.copy();
        int wrong = 0;
        int line = 0;
        stepsGone = 0;
        while (line < s.plan.size() && wrong == 0) {
            String[] l = s.plan.get(line);
            wrong = act(t, l[0], Integer.parseInt(l[1]), Integer.parseInt(l[2]));
            line += wrong == 0 ? 1 : 0;
        }
        verdict = new int[] {wrong, line, t.day, t.heads.stream().mapToInt(i -> i).sum(), stepsGone,
            t.taken - s.taken};
        if (lives == 1 && line > 0) {
            keep(t);
        }
        return wrong == 0 ? NONE : line;
    }

    int judged(int what) {
        return verdict == null || what < 0 || what > 5 ? NONE : verdict[what];
    }

    boolean image(int k) {
        if (k != 0 && k != 1) {
            return false;
        }
        images[k] = s.copy();
        return true;
    }

    boolean restore(int k) {
        if (k != 0 && k != 1 || images[k] == null) {
            return false;
        }
        s = images[k].copy();
        past.clear();
        return true;
    }

    @Override
    public String toString() {
        return "day " + s.day + " cells " + s.cells + " heads " + s.heads + " plan "
            + Arrays.deepToString(s.plan.toArray());
    }
}
