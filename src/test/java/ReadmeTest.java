import java.io.IOException;
import java.lang.reflect.Method;
import java.net.URL;
import java.net.URLClassLoader;
import java.nio.file.Files;
import java.nio.file.Path;
import java.util.Set;
import java.util.TreeSet;
import java.util.regex.Matcher;
import java.util.regex.Pattern;
import javax.tools.ToolProvider;

/** The Java of README.md compiles, its calls answer the numbers behind them, and it names every call of the face. */
public final class ReadmeTest {
    private static final Pattern BLOCK = Pattern.compile("```java\n(.*?)```", Pattern.DOTALL);
    private static final Pattern ANSWERED = Pattern.compile("(x\\.\\w+\\(.*\\)); +// (-?\\d+)(?!\\w).*");
    private static int checks = 0;
    private static int wrong = 0;

    /** Called by the class made of the page. */
    public static void due(String call, int got, int want) {
        checks++;
        if (got != want) {
            wrong++;
            System.out.println(call + " answered " + got + ", README.md says " + want);
        }
    }

    private static String exampleOf(String page) {
        StringBuilder methods = new StringBuilder();
        StringBuilder calls = new StringBuilder();
        for (Matcher block = BLOCK.matcher(page); block.find(); ) {
            if (block.group(1).startsWith("static ")) {
                methods.append(block.group(1));
                continue;
            }
            for (String line : block.group(1).split("\n")) {
                Matcher answered = ANSWERED.matcher(line);
                calls.append(answered.matches()
                    ? "ReadmeTest.due(\"" + answered.group(1) + "\", " + answered.group(1) + ", " + answered.group(2) + ");"
                    : line).append('\n');
            }
        }
        return "public final class Example {\n" + methods + "public static void main(String[] args) {\n" + calls + "}}\n";
    }

    private static void run(String example) throws IOException, ReflectiveOperationException {
        Path out = Files.createTempDirectory("readme");
        Path source = Files.writeString(out.resolve("Example.java"), example);
        int code = ToolProvider.getSystemJavaCompiler().run(null, null, null, "-proc:none",
            "-cp", System.getProperty("java.class.path"), "-d", out.toString(), source.toString());
        due("the Java of README.md compiles with exit code", code, 0);
        int before = checks;
        if (code == 0) {
            try (URLClassLoader loader = new URLClassLoader(new URL[] {out.toUri().toURL()})) {
                loader.loadClass("Example").getMethod("main", String[].class).invoke(null, (Object) new String[0]);
            }
        }
        due("README.md has calls with an answer behind them: 1 for yes", checks > before ? 1 : 0, 1);
        for (String name : new String[] {"Example.java", "Example.class"}) {
            Files.deleteIfExists(out.resolve(name));
        }
        Files.deleteIfExists(out);
    }

    private static void names(String page) {
        Set<String> missing = new TreeSet<>();
        for (Method call : StiltHerds.class.getMethods()) {
            if (call.getDeclaringClass() == StiltHerds.class && !page.matches("(?s).*`" + call.getName() + "[`(].*")) {
                missing.add(call.getName());
            }
        }
        due("calls that README.md does not name, " + missing, missing.size(), 0);
    }

    public static void main(String[] args) throws IOException, ReflectiveOperationException {
        String page = Files.readString(Path.of("README.md"));
        run(exampleOf(page));
        names(page);
        System.out.println("ReadmeTest: " + checks + " checks, " + wrong + " wrong");
        if (wrong != 0) {
            System.exit(1);
        }
    }
}
