import com.sun.management.ThreadMXBean;
import java.io.IOException;
import java.lang.management.ManagementFactory;
import java.lang.reflect.Array;
import java.lang.reflect.Constructor;
import java.lang.reflect.Field;
import java.lang.reflect.Method;
import java.lang.reflect.Modifier;
import java.nio.file.Files;
import java.nio.file.Path;
import java.util.Arrays;
import java.util.IdentityHashMap;
import java.util.Set;
import java.util.TreeSet;

/** The face, the rules of LANGUAGE.md that can be seen from outside, and the room that an object takes. */
public final class RulesTest {
    private static final Desk DESK = new Desk();
    private static final String FACE = "feed(5) end(1) moor(0) fault(0) cell(2) herd(2) on(2) timber(0) flock(0) deepest(1) "
        + "near(2) stands(3) steps(4) risk(4) way(1) ladders(4) write(4) byteAt(1) passes(4) reach(3) sees(1) saw(2) "
        + "handed(2) fires(0) wolf(1) go(2) trade(3) day(0) night(1) undo(0) low(2) high(2) lost(2) holes(0) seats(1) "
        + "seat(1) cut(4) drowns(4) dry(3) widest(0) who(2) walk(4) falls(5) plan(0) judge(1) judged(1) image(1) "
        + "restore(1) count(1)";
    private static final String BOOLEANS = "end image restore";
    /** An object may be made by each of 512 calls, in a room of 600,000 objects and 7.3 million elements. */
    private static final int MOST_OBJECTS = 600000 / 512;
    private static final int MOST_ELEMENTS = 7300000 / 512;

    private static void face() {
        Set<String> want = new TreeSet<>(Arrays.asList(FACE.split(" ")));
        Set<String> got = new TreeSet<>();
        Set<String> names = new TreeSet<>();
        for (Method m : StiltHerds.class.getDeclaredMethods()) {
            if (Modifier.isPrivate(m.getModifiers())) {
                continue;
            }
            got.add(m.getName() + "(" + m.getParameterCount() + ")");
            names.add(m.getName());
            Class<?> answer = BOOLEANS.contains(m.getName()) && m.getParameterCount() == 1 ? boolean.class : int.class;
            DESK.due(m + " is public", Modifier.isPublic(m.getModifiers()), true);
            DESK.due(m + " answers as told", m.getReturnType() == answer, true);
            for (Class<?> p : m.getParameterTypes()) {
                DESK.due(m + " takes ints", p == int.class, true);
            }
        }
        DESK.due("the face is " + got, got.equals(want), true);
        DESK.due("the class is public and final", StiltHerds.class.getModifiers(), Modifier.PUBLIC | Modifier.FINAL);
        for (Field f : StiltHerds.class.getDeclaredFields()) {
            boolean open = !Modifier.isPrivate(f.getModifiers());
            DESK.due(f + " is no member of the face", open, f.getName().equals("NONE"));
        }
        inside(names);
    }

    private static void inside(Set<String> names) {
        Class<?>[] classes = StiltHerds.class.getDeclaredClasses();
        DESK.due("classes inside: " + classes.length, classes.length + 1 <= 12, true);
        for (Class<?> c : classes) {
            shape(c);
            DESK.due(c + " is static", Modifier.isStatic(c.getModifiers()), true);
            for (Method m : c.getDeclaredMethods()) {
                DESK.due(m + " bears no name of the face", names.contains(m.getName()), false);
            }
        }
        shape(StiltHerds.class);
    }

    private static void shape(Class<?> c) {
        int fields = 0;
        for (Field f : c.getDeclaredFields()) {
            boolean constant = Modifier.isStatic(f.getModifiers());
            fields += constant ? 0 : 1;
            DESK.due(f + " is final if it is static", !constant || Modifier.isFinal(f.getModifiers()), true);
        }
        DESK.due("fields of " + c + ": " + fields, fields <= 20, true);
        for (Method m : c.getDeclaredMethods()) {
            DESK.due(m + " takes at most seven", m.getParameterCount() <= 7, true);
            DESK.due(m + " is no lambda or bridge", m.isSynthetic(), false);
        }
    }

    private static void source() throws IOException {
        String text = Files.readString(Path.of("src/main/java/StiltHerds.java"));
        for (String word : new String[] {"->", "::", "Exact", "synchronized", "finally", "assert", "catch", "try",
            "while (true)", "System.nano", "System.current", "Random", "Thread", "@", "instanceof", "getMessage",
            "hashCode", "toString", "Integer.MAX", "Integer.MIN", "import java.util.List"}) {
            DESK.due("the source has '" + word + "'", text.contains(word), false);
        }
        for (String line : text.split("\n")) {
            DESK.due("imports as allowed: " + line, !line.startsWith("import ")
                || line.equals("import java.util.Arrays;") || line.equals("import java.util.NoSuchElementException;"), true);
            DESK.due("signs of " + line, line.matches("[ -~]*"), true);
            DESK.due("length of " + line, line.length() <= 120, true);
        }
        methodLengths(text.split("\n"));
    }

    /** A method begins at an indent of 4 or 8 with a brace opened, and ends where one closes at that indent. */
    private static void methodLengths(String[] lines) {
        for (String indent : new String[] {"    ", "        "}) {
            int began = -1;
            for (int i = 0; i < lines.length; i++) {
                if (lines[i].matches(indent + "\\S.*\\) (throws \\w+ )?\\{")) {
                    began = i;
                } else if (lines[i].equals(indent + "}") && began >= 0) {
                    DESK.due("length of " + lines[began].trim(), i - began + 1 <= 60, true);
                    began = -1;
                }
            }
        }
    }

    // ---- the room

    private static int elements;

    private static void countFrom(Object o, IdentityHashMap<Object, Boolean> seen) throws IllegalAccessException {
        if (o == null || seen.put(o, true) != null) {
            return;
        }
        if (o.getClass().isArray()) {
            elements += Array.getLength(o);
            for (int i = 0; !o.getClass().getComponentType().isPrimitive() && i < Array.getLength(o); i++) {
                countFrom(Array.get(o, i), seen);
            }
            return;
        }
        for (Field f : o.getClass().getDeclaredFields()) {
            if (!Modifier.isStatic(f.getModifiers())) {
                f.setAccessible(true);
                elements++;
                if (!f.getType().isPrimitive()) {
                    countFrom(f.get(o), seen);
                }
            }
        }
    }

    private static void room() throws IllegalAccessException {
        IdentityHashMap<Object, Boolean> seen = new IdentityHashMap<>();
        countFrom(new StiltHerds(), seen);
        System.out.println("an object takes " + seen.size() + " objects and " + elements + " elements");
        DESK.due("objects: " + seen.size(), seen.size() <= MOST_OBJECTS, true);
        DESK.due("elements: " + elements, elements <= MOST_ELEMENTS, true);
    }

    /** Every call is made once; none may make an object. */
    private static void allCalls(StiltHerds x) {
        x.feed(0x6461793b, 0x6461793b, 0x6461793b, 0x6461793b, 0x6461793b);
        x.plan();
        x.feed(0, 0, 0, 0, 0);
        x.end(3);
        x.holes();
        x.cell(0, 4);
        x.herd(0, 4);
        x.on(0, 0);
        x.timber();
        x.flock();
        x.deepest(0);
        x.near(0, 9);
        x.stands(0, 1, 1);
        x.steps(0, 2, 9, 0);
        x.risk(0, 2, 9, 0);
        x.walk(0, 2, 9, 1);
        x.way(0);
        x.ladders(0, 2, 9, 0);
        x.write(0, 2, 9, 0);
        x.byteAt(0);
        x.passes(0, 2, 0, 0);
        x.reach(0, 9, 0);
        x.sees(0);
        x.saw(0, 0);
        x.handed(0, 1);
        x.fires();
        x.wolf(0);
        x.go(0, 2);
        x.trade(0, 1, 1);
        x.day();
        x.night(9);
        x.undo();
        x.low(0, 0);
        x.high(0, 0);
        x.lost(0, 9);
        x.seats(9);
        x.seat(0);
        x.cut(0, 9, 0, 5);
        x.drowns(0, 2, 9, 0);
        x.dry(0, 2, 9);
        x.widest();
        x.who(0, 2);
        x.falls(0, 2, 9, 99, 1);
        x.judge(1);
        x.judged(0);
        x.image(0);
        x.restore(0);
        x.count(0);
        x.moor();
        x.fault();
    }

    private static void calls() {
        ThreadMXBean thread = (ThreadMXBean) ManagementFactory.getThreadMXBean();
        long least = Long.MAX_VALUE;
        for (int i = 0; i < 20; i++) {
            StiltHerds x = Desk.on("row 5 5 5;row 5 0 5;water 0 3;wolf 0 1 9;ladder 0 0;herd a 0 0 9;herd b 2 0 3;");
            long before = thread.getCurrentThreadAllocatedBytes();
            allCalls(x);
            least = Math.min(least, thread.getCurrentThreadAllocatedBytes() - before);
        }
        DESK.due("bytes that all calls make", least, 0);
    }

    public static void main(String[] args) throws IOException, IllegalAccessException {
        face();
        source();
        room();
        calls();
        Constructor<?>[] constructors = StiltHerds.class.getDeclaredConstructors();
        DESK.due("one constructor", constructors.length == 1 && constructors[0].getParameterCount() == 0, true);
        DESK.finish("RulesTest");
    }
}
