import java.io.IOException;
import java.nio.charset.StandardCharsets;
import java.nio.file.Files;
import java.nio.file.Path;
import java.util.ArrayList;
import java.util.List;
import java.util.Map;
import java.util.Set;
import java.util.TreeMap;
import java.util.TreeSet;
import java.util.regex.Matcher;
import java.util.regex.Pattern;

/** Rule 11 of LANGUAGE.md, asked of the source: methods are short, and calls go at most eight deep. */
public final class DepthTest {
    private static final int MOST_LINES = 60;
    private static final int MOST_DEEP = 8;
    private static final Pattern METHOD =
            Pattern.compile("(?m)^ +(?:(?:public|private|static|final) )*[\\w\\[\\]]+ (\\w+)\\([^)]*\\) \\{$");
    private static final Pattern CALL = Pattern.compile("\\b(\\w+)\\(");
    private static final Check CHECK = new Check();

    public static void main(String[] args) throws IOException {
        String source = Files.readString(Path.of("src/main/java/DutiesHat.java"), StandardCharsets.UTF_8)
                .replaceAll("//[^\n]*", "").replaceAll("\"[^\"\n]*\"", "\"\"");
        Map<String, String> bodies = bodiesOf(source);
        Map<String, Set<String>> calls = callsOf(bodies);
        CHECK.isTrue("the methods of the face are among " + bodies.keySet(), bodies.size() > 25);
        for (String name : bodies.keySet()) {
            int lines = bodies.get(name).split("\n").length;
            CHECK.isTrue(name + " has " + lines + " lines, some sixty at most", lines <= MOST_LINES);
            List<String> chain = deepest(name, calls, new ArrayList<>());
            CHECK.isTrue("calls go at most eight deep: " + chain, chain.size() <= MOST_DEEP);
        }
        CHECK.end();
    }

    /** By name; a name that two classes have would join their calls into one, so there is none such. */
    private static Map<String, String> bodiesOf(String source) {
        Map<String, String> bodies = new TreeMap<>();
        Matcher method = METHOD.matcher(source);
        while (method.find()) {
            int open = 1;
            int at = method.end();
            while (open > 0 && at < source.length()) {
                open += source.charAt(at) == '{' ? 1 : source.charAt(at) == '}' ? -1 : 0;
                at++;
            }
            String before = bodies.put(method.group(1), source.substring(method.end(), at));
            CHECK.isTrue(method.group(1) + " is the name of one method", before == null);
        }
        return bodies;
    }

    private static Map<String, Set<String>> callsOf(Map<String, String> bodies) {
        Map<String, Set<String>> calls = new TreeMap<>();
        for (Map.Entry<String, String> body : bodies.entrySet()) {
            Set<String> called = new TreeSet<>();
            Matcher call = CALL.matcher(body.getValue());
            while (call.find()) {
                if (bodies.containsKey(call.group(1))) {
                    called.add(call.group(1));
                }
            }
            calls.put(body.getKey(), called);
        }
        return calls;
    }

    /** The longest chain of methods that call one another; the class needs no recursion, so a ring is told too. */
    private static List<String> deepest(String name, Map<String, Set<String>> calls, List<String> open) {
        List<String> chain = new ArrayList<>();
        CHECK.isTrue(name + " does not call itself by " + open, !open.contains(name));
        if (!open.contains(name)) {
            open.add(name);
            for (String called : calls.get(name)) {
                List<String> below = deepest(called, calls, open);
                chain = below.size() > chain.size() ? below : chain;
            }
            open.remove(name);
        }
        chain.add(0, name);
        return chain;
    }
}
