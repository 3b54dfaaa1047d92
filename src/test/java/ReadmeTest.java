import java.io.IOException;
import java.lang.reflect.Method;
import java.lang.reflect.Modifier;
import java.net.URL;
import java.net.URLClassLoader;
import java.nio.file.Files;
import java.nio.file.Path;
import java.util.ArrayList;
import java.util.List;
import java.util.Map;
import java.util.Set;
import java.util.TreeSet;
import java.util.concurrent.Callable;
import java.util.function.IntConsumer;
import java.util.regex.Matcher;
import java.util.regex.Pattern;
import java.util.stream.Stream;
import javax.tools.JavaCompiler;
import javax.tools.ToolProvider;

/**
 * The calls that README.md shows answer what README.md says of them: its Java is made into one program, in which each
 * comment "answers .." or "throws .." becomes a comparison. It shows every call, its limits are so, and it names
 * every test.
 */
public final class ReadmeTest {
    private static final Path README = Path.of("README.md");
    private static final Path TESTS = Path.of("src/test/java");
    private static final String FIRST_LINE = "BinStreams x = new BinStreams();";
    private static final Pattern LINE =
            Pattern.compile("(?:int (\\w+) = )?(x\\.(\\w+)\\(.*?\\));(?:\\s+//\\s*(.*))?");
    private static final Pattern TELLS = Pattern.compile("(answers|throws) ([-\\w.]+)(,.*)?");

    private static int wrong = 0;

    private static void fault(String text) {
        wrong++;
        System.out.println(text);
    }

    private static List<String> javaLines(String readme) {
        List<String> lines = new ArrayList<>();
        boolean inside = false;
        for (String line : readme.split("\n")) {
            if (line.startsWith("```")) inside = line.equals("```java");
            else if (inside && !line.isBlank()) lines.add(line);
        }
        return lines;
    }

    private static boolean answersNothing(String method) {
        for (Method m : BinStreams.class.getMethods()) {
            if (m.getName().equals(method)) return m.getReturnType() == void.class;
        }
        return false;
    }

    private static String compare(String variable, String call, String verb, String value) {
        String text = "\"" + call + "\"";
        if (verb.equals("throws")) {
            String want = "\"" + value + "\"";
            return "try { " + call + "; due(" + text + ", \"nothing\", " + want + "); } catch (RuntimeException e) "
                    + "{ due(" + text + ", e.getClass().getSimpleName(), " + want + "); }";
        }
        if (variable == null) return "due(" + text + ", " + call + ", " + value + ");";
        return "int " + variable + " = " + call + "; due(" + text + ", " + variable + ", " + value + ");";
    }

    /** A line of the page as a line of the program. */
    private static String compared(String line) {
        Matcher m = LINE.matcher(line);
        if (!m.matches()) {
            if (!line.equals(FIRST_LINE)) fault("README.md has a line that is no call: " + line);
            return line;
        }
        Matcher tells = TELLS.matcher(m.group(4) == null ? "" : m.group(4));
        if (tells.matches()) return compare(m.group(1), m.group(2), tells.group(1), tells.group(2));
        if (!answersNothing(m.group(3))) fault("README.md does not say what it answers: " + line);
        return line;
    }

    private static String program(List<String> lines) {
        StringBuilder all = new StringBuilder();
        all.append("public final class ReadmeCalls implements java.util.concurrent.Callable<Integer> {\n");
        all.append("int rows = 0, wrong = 0;\n");
        all.append("void due(String call, Object got, Object want) { rows++; if (!got.equals(want)) { wrong++;\n");
        all.append("System.out.println(\"README.md: \" + call + \" answered \" + got + \", said is \" + want); } }\n");
        all.append("public Integer call() {\n");
        for (String line : lines) all.append(compared(line)).append('\n');
        all.append("System.out.println(rows + \" answers of README.md compared\");\n");
        return all.append("return rows == 0 ? 1 : wrong; } }\n").toString();
    }

    private static void run(String program) throws Exception {
        Path folder = Files.createTempDirectory("readme");
        Path source = folder.resolve("ReadmeCalls.java");
        Path made = folder.resolve("ReadmeCalls.class");
        try {
            Files.writeString(source, program);
            JavaCompiler compiler = ToolProvider.getSystemJavaCompiler();
            int code = compiler.run(null, null, null, "-d", folder.toString(), "-cp",
                    System.getProperty("java.class.path"), source.toString());
            if (code != 0) {
                fault("the Java of README.md does not compile");
                return;
            }
            try (URLClassLoader loader = new URLClassLoader(new URL[] {folder.toUri().toURL()})) {
                Object calls = loader.loadClass("ReadmeCalls").getConstructor().newInstance();
                wrong += ((Callable<?>) calls).call() instanceof Integer n ? n : 1;
            }
        } finally {
            Files.deleteIfExists(made);
            Files.deleteIfExists(source);
            Files.deleteIfExists(folder);
        }
    }

    private static void showsEveryCall(List<String> lines) {
        Set<String> missing = new TreeSet<>();
        for (Method m : BinStreams.class.getDeclaredMethods()) {
            if (Modifier.isPublic(m.getModifiers())) missing.add(m.getName());
        }
        for (String line : lines) {
            Matcher m = LINE.matcher(line);
            if (m.matches()) missing.remove(m.group(3));
        }
        if (!missing.isEmpty()) fault("README.md does not show " + missing);
    }

    /** A call for each limit; what is refused throws. */
    private static Map<String, IntConsumer> limits() {
        BinStreams x = new BinStreams();
        x.start();
        BinStreams ended = new BinStreams();
        ended.start();
        ended.finish();
        return Map.of(
                "a bin", v -> x.pass(v),
                "a context", v -> x.put(v, 0),
                "the first context of a count", v -> x.unary(v, 1, 0),
                "a state", v -> x.set(0, v, 0),
                "the order of a number", v -> x.golomb(v, false, 0),
                "a number", v -> x.golomb(0, false, v),
                "a signed number", v -> x.golomb(0, true, v),
                "the most of a count", v -> x.unary(0, v, 0),
                "a byte", v -> ended.alter(0, v));
    }

    private static boolean takes(IntConsumer call, int v) {
        try {
            call.accept(v);
            return true;
        } catch (RuntimeException e) {
            return false;
        }
    }

    private static void tellsLimits(String readme) {
        Map<String, IntConsumer> limits = limits();
        Set<String> told = new TreeSet<>();
        Matcher m = Pattern.compile("\n\\| ([a-z ]+) \\| (-?\\d+) \\| (-?\\d+) \\|").matcher(readme);
        while (m.find()) {
            told.add(m.group(1));
            IntConsumer call = limits.get(m.group(1));
            int from = Integer.parseInt(m.group(2));
            int to = Integer.parseInt(m.group(3));
            boolean holds = call != null && takes(call, from) && takes(call, to)
                    && !takes(call, from - 1) && !takes(call, to + 1);
            if (!holds) fault("README.md: the limit of " + m.group(1) + " is not so");
        }
        if (!told.equals(limits.keySet())) fault("README.md tells the limits of " + told);
    }

    private static void namesEveryTest(String readme) throws IOException {
        Set<String> there = new TreeSet<>();
        try (Stream<Path> files = Files.list(TESTS)) {
            files.forEach(file -> there.add(file.getFileName().toString()));
        }
        Set<String> named = new TreeSet<>();
        Matcher m = Pattern.compile("\n- `src/test/java/(\\w+\\.java)`").matcher(readme);
        while (m.find()) named.add(m.group(1));
        if (!there.equals(named)) fault("README.md names the tests " + named + ", there are " + there);
    }

    public static void main(String[] args) throws Exception {
        String readme = Files.readString(README);
        List<String> lines = javaLines(readme);
        run(program(lines));
        showsEveryCall(lines);
        tellsLimits(readme);
        namesEveryTest(readme);
        System.out.println(wrong == 0 ? "README.md tells what is so" : wrong + " things of README.md are not so");
        if (wrong != 0) System.exit(1);
    }
}
