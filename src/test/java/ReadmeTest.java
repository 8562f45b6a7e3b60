import java.io.IOException;
import java.io.StringWriter;
import java.lang.reflect.Method;
import java.lang.reflect.Modifier;
import java.net.URL;
import java.net.URLClassLoader;
import java.nio.charset.StandardCharsets;
import java.nio.file.Files;
import java.nio.file.Path;
import java.util.ArrayList;
import java.util.Comparator;
import java.util.List;
import java.util.Map;
import java.util.TreeSet;
import java.util.regex.Matcher;
import java.util.regex.Pattern;
import java.util.stream.Stream;
import javax.tools.JavaCompiler;
import javax.tools.StandardJavaFileManager;
import javax.tools.ToolProvider;

/** What README.md tells is so: its Java lines are compiled and run as they stand, and answer what it tells. */
public final class ReadmeTest {
    private static final Check CHECK = new Check();
    private static final Map<String, Long> NAMED_ANSWERS =
            Map.of("NONE", -1L, "UNKNOWN", -2L, "OUTSIDE", -3L, "NOT", -4L, "FULL", -5L);
    private static final Pattern BLOCK = Pattern.compile("(?ms)^```java\n(.*?)^```$");
    private static final Pattern CALL = Pattern.compile("((?:hat\\.|tell\\().*\\));\\s*// ([A-Z]+|-?\\d+)(?![\\w/]).*");
    private static final Pattern FRACTION = Pattern.compile("// \\d+: \\.\\. (?:is|are) (\\d+)(?: / (\\d+))?$");

    private final List<String> calls = new ArrayList<>();
    private final List<Long> told = new ArrayList<>();
    private final StringBuilder helpers = new StringBuilder();
    private final StringBuilder run = new StringBuilder();

    public static void main(String[] args) throws Exception {
        String readme = Files.readString(Path.of("README.md"), StandardCharsets.UTF_8);
        ReadmeTest test = new ReadmeTest();
        test.read(readme);
        test.holdAnswers();
        test.everyCallIsShown();
        fractions(readme);
        refusalsAreNumbered(readme);
        everyTestIsNamed(readme);
        CHECK.end();
    }

    /** Parts the blocks into methods and the lines of the one run; a line that tells no answer must be the making. */
    private void read(String readme) {
        Matcher blocks = BLOCK.matcher(readme);
        while (blocks.find()) {
            String block = blocks.group(1);
            if (block.startsWith("static ")) {
                helpers.append(block);
                continue;
            }
            for (String line : block.split("\n")) {
                Matcher call = CALL.matcher(line);
                if (call.matches()) {
                    calls.add(call.group(1));
                    told.add(valueOf(call.group(2)));
                    run.append("answers.add((long) ").append(call.group(1)).append(");\n");
                } else {
                    CHECK.isTrue("this line tells its answer: " + line, line.equals("DutiesHat hat = new DutiesHat();"));
                    run.append(line).append('\n');
                }
            }
        }
        CHECK.isTrue("README.md has its run", calls.size() > 50);
    }

    private static long valueOf(String answer) {
        if (answer.matches("-?\\d+")) {
            return Long.parseLong(answer);
        }
        CHECK.isTrue(answer + " is an answer's name", NAMED_ANSWERS.containsKey(answer));
        return NAMED_ANSWERS.getOrDefault(answer, Long.MIN_VALUE);
    }

    private void holdAnswers() throws Exception {
        Path room = Files.createTempDirectory("readme");
        try {
            List<?> answers = compileAndRun(room);
            CHECK.due("how many answers", answers.size(), told.size());
            for (int i = 0; i < answers.size() && i < told.size(); i++) {
                CHECK.due("README.md: " + calls.get(i), (Long) answers.get(i), told.get(i));
            }
        } finally {
            clear(room);
        }
    }

    private List<?> compileAndRun(Path room) throws Exception {
        Path source = room.resolve("ReadmeRun.java");
        Files.writeString(source, "public final class ReadmeRun {\n"
                + "public static java.util.List<Long> run() {\n"
                + "java.util.List<Long> answers = new java.util.ArrayList<>();\n" + run + "return answers;\n}\n"
                + helpers + "}\n");
        JavaCompiler compiler = ToolProvider.getSystemJavaCompiler();
        StringWriter said = new StringWriter();
        boolean compiled;
        try (StandardJavaFileManager files = compiler.getStandardFileManager(null, null, null)) {
            List<String> options =
                    List.of("-proc:none", "-d", room.toString(), "-cp", System.getProperty("java.class.path"));
            compiled = compiler.getTask(said, files, null, options, null, files.getJavaFileObjects(source)).call();
        }
        CHECK.isTrue("the Java lines of README.md compile: " + said, compiled);
        if (!compiled) {
            return List.of();
        }
        try (URLClassLoader loader = new URLClassLoader(new URL[] {room.toUri().toURL()})) {
            return (List<?>) loader.loadClass("ReadmeRun").getMethod("run").invoke(null);
        }
    }

    private static void clear(Path room) throws IOException {
        try (Stream<Path> all = Files.walk(room)) {
            for (Path path : all.sorted(Comparator.reverseOrder()).toList()) {
                Files.delete(path);
            }
        }
    }

    private void everyCallIsShown() {
        String shown = run.toString() + helpers;
        for (Method method : DutiesHat.class.getDeclaredMethods()) {
            if (Modifier.isPublic(method.getModifiers())) {
                CHECK.isTrue("README.md shows " + method.getName(), shown.contains("hat." + method.getName() + "("));
            }
        }
        CHECK.isTrue("an object is used for 512 calls at most", calls.size() < 400);
    }

    /** A fraction that words tell is the one that the two answers give. */
    private static void fractions(String readme) {
        String[] lines = readme.split("\n");
        int seen = 0;
        for (int i = 1; i < lines.length; i++) {
            Matcher fraction = FRACTION.matcher(lines[i]);
            if (fraction.find()) {
                seen++;
                CHECK.due("above, in: " + lines[i], answerOf(lines[i - 1]), Long.parseLong(fraction.group(1)));
                String below = fraction.group(2) == null ? "1" : fraction.group(2);
                CHECK.due("below, in: " + lines[i], answerOf(lines[i]), Long.parseLong(below));
            }
        }
        CHECK.due("fractions told by words", seen, readme.split("// \\d+: \\.\\. (is|are) ", -1).length - 1);
    }

    private static long answerOf(String line) {
        Matcher call = CALL.matcher(line);
        return call.matches() ? valueOf(call.group(2)) : Long.MIN_VALUE;
    }

    private static void refusalsAreNumbered(String readme) {
        for (Map.Entry<String, Long> answer : NAMED_ANSWERS.entrySet()) {
            CHECK.isTrue("README.md gives the number of " + answer.getKey(),
                    readme.contains("| `" + answer.getKey() + "` | " + answer.getValue() + " |"));
        }
    }

    private static void everyTestIsNamed(String readme) throws IOException {
        TreeSet<String> named = new TreeSet<>();
        Matcher names = Pattern.compile("`(\\w+Test)`").matcher(readme);
        while (names.find()) {
            named.add(names.group(1));
        }
        TreeSet<String> there = new TreeSet<>();
        try (Stream<Path> files = Files.list(Path.of("src/test/java"))) {
            files.map(path -> path.getFileName().toString()).filter(name -> name.endsWith(".java"))
                    .forEach(name -> there.add(name.substring(0, name.length() - 5)));
        }
        CHECK.isTrue("README.md names " + named + ", there are " + there, named.equals(there));
    }
}
