import java.io.IOException;
import java.lang.reflect.Method;
import java.lang.reflect.Modifier;
import java.net.URL;
import java.net.URLClassLoader;
import java.nio.file.Files;
import java.nio.file.Path;
import java.util.Collections;
import java.util.Comparator;
import java.util.List;
import java.util.regex.Pattern;
import java.util.stream.Collectors;
import java.util.stream.Stream;
import javax.tools.ToolProvider;

/** README.md tells the truth: its example answers as its comments say, and its table has every call. */
public final class ReadmeTest {
    private static final Pattern ANSWERED = Pattern.compile("(?m)^(int \\w+ = )?(x\\.\\w+\\(.*\\));\\s+// (-?\\w+).*$");
    private static int wrong = 0;
    private static int held = 0;

    /** The example calls this, once for each line whose comment begins with an answer. */
    public static <V> V due(String call, V got, String want) {
        held++;
        if (!String.valueOf(got).equals(want)) {
            fault(call + " answered " + got + ", README.md says " + want);
        }
        return got;
    }

    private static void fault(String what) {
        wrong++;
        System.out.println(what);
    }

    private static String example(String readme) {
        int from = readme.indexOf("```java\n");
        int to = readme.indexOf("```", from + 3);
        if (from < 0 || to < 0) {
            fault("README.md has no example");
            return "";
        }
        return readme.substring(from + "```java\n".length(), to);
    }

    private static void runExample(String readme, Path dir) throws IOException, ReflectiveOperationException {
        String body = ANSWERED.matcher(example(readme)).replaceAll("$1ReadmeTest.due(\"$2\", $2, \"$3\");");
        Path file = dir.resolve("Example.java");
        Files.writeString(file, "public final class Example { public static void run() {\n" + body + "}}\n");
        String classes = System.getProperty("java.class.path");
        int code = ToolProvider.getSystemJavaCompiler()
                .run(null, null, null, "-cp", classes, "-d", dir.toString(), file.toString());
        if (code != 0) {
            fault("the example of README.md does not compile");
            return;
        }
        try (URLClassLoader loader = new URLClassLoader(new URL[] {dir.toUri().toURL()})) {
            loader.loadClass("Example").getMethod("run").invoke(null);
        }
        if (held == 0) {
            fault("no line of the example tells its answer");
        }
    }

    private static void checkTable(String readme) {
        for (Method m : ContestRows.class.getDeclaredMethods()) {
            if (!Modifier.isPublic(m.getModifiers())) {
                continue;
            }
            // A row of as many names as the call has parameters.
            String names = String.join(", ", Collections.nCopies(m.getParameterCount(), "\\w+"));
            if (!Pattern.compile("(?m)^\\| `" + m.getName() + "\\(" + names + "\\)` \\|").matcher(readme).find()) {
                fault("the table of README.md has no row for " + m);
            }
        }
    }

    private static void clear(Path dir) throws IOException {
        List<Path> all;
        try (Stream<Path> inside = Files.walk(dir)) {
            all = inside.sorted(Comparator.reverseOrder()).collect(Collectors.toList());
        }
        for (Path each : all) {
            Files.delete(each);
        }
    }

    public static void main(String[] args) throws IOException, ReflectiveOperationException {
        String readme = Files.readString(Path.of("README.md"));
        Path dir = Files.createTempDirectory("readme");
        try {
            runExample(readme, dir);
        } finally {
            clear(dir);
        }
        checkTable(readme);
        System.out.println(wrong == 0 ? "README.md holds, " + held + " answers" : wrong + " things are not as due");
        if (wrong != 0) {
            System.exit(1);
        }
    }
}
