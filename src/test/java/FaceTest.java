import java.io.IOException;
import java.lang.reflect.Constructor;
import java.lang.reflect.Field;
import java.lang.reflect.Method;
import java.lang.reflect.Modifier;
import java.nio.charset.StandardCharsets;
import java.nio.file.Files;
import java.nio.file.Path;
import java.util.Arrays;
import java.util.Set;
import java.util.TreeSet;
import java.util.regex.Matcher;
import java.util.regex.Pattern;

/** The public face, and the rules of LANGUAGE.md that the class itself and its source can be asked for. */
public final class FaceTest {
    private static final String[] FACE = {
        "int write(long, int)", "int erase()", "int fault()", "int hall()", "int monk(int, int, int)",
        "int as(int, int)", "int lay(int)", "int draw(int)", "int has(int, int)", "int trade(int, int, int)",
        "int settle()", "int dawn()", "int today(int)", "int ends(int)", "int hint(int)", "int lawful()",
        "int mean(int, int, int)", "int odds(int, int, int, int)", "int week(int)", "int often(int, int)",
        "long tail(int, int, int)", "int named(int)", "int keep(int)", "int back(int)", "int count(int)"};
    private static final String[] FORBIDDEN = {
        "\\bimport\\b", "\\bpackage\\b", "\\bthrow\\b", "\\bthrows\\b", "\\btry\\b", "\\bcatch\\b", "\\bsynchronized\\b",
        "\\bassert\\b", "->", "::", "\\bSystem\\.(?!arraycopy\\b)", "\\bjava\\.", "\\w+Exact\\b", "\\bvolatile\\b",
        "\\bfloat\\b", "\\bdouble\\b", "\\bstatic\\s*\\{", "\\bThread\\b", "\\bObject\\b", "\\bwhile\\s*\\(true\\)",
        "for\\s*\\(;;\\)", "\\[\\]\\[\\]\\[\\]"};
    private static final Check CHECK = new Check();

    public static void main(String[] args) throws IOException {
        constants();
        publicMembers();
        otherMembers();
        source();
        CHECK.end();
    }

    private static void constants() {
        CHECK.due("NONE", DutiesHat.NONE, -1);
        CHECK.due("UNKNOWN", DutiesHat.UNKNOWN, -2);
        CHECK.due("OUTSIDE", DutiesHat.OUTSIDE, -3);
        CHECK.due("NOT", DutiesHat.NOT, -4);
        CHECK.due("FULL", DutiesHat.FULL, -5);
    }

    private static void publicMembers() {
        CHECK.isTrue("public final class",
                DutiesHat.class.getModifiers() == (Modifier.PUBLIC | Modifier.FINAL));
        Set<String> methods = new TreeSet<>();
        for (Method method : DutiesHat.class.getDeclaredMethods()) {
            if (!Modifier.isPrivate(method.getModifiers())) {
                CHECK.isTrue(method + " is plainly public", method.getModifiers() == Modifier.PUBLIC);
                methods.add(method.getReturnType() + " " + method.getName()
                        + Arrays.toString(method.getParameterTypes()).replace('[', '(').replace(']', ')'));
            }
        }
        CHECK.isTrue("the methods are the document's: " + methods, methods.equals(new TreeSet<>(Arrays.asList(FACE))));
        Constructor<?>[] constructors = DutiesHat.class.getDeclaredConstructors();
        CHECK.isTrue("one public constructor without parameters", constructors.length == 1
                && constructors[0].getParameterCount() == 0 && Modifier.isPublic(constructors[0].getModifiers()));
        Set<String> fields = new TreeSet<>();
        for (Field field : DutiesHat.class.getDeclaredFields()) {
            if (!Modifier.isPrivate(field.getModifiers())) {
                fields.add(field.getName());
            }
        }
        CHECK.isTrue("the constants are the document's: " + fields,
                fields.equals(Set.of("NONE", "UNKNOWN", "OUTSIDE", "NOT", "FULL")));
    }

    private static void otherMembers() {
        Set<String> names = new TreeSet<>();
        for (String method : FACE) {
            names.add(method.substring(method.indexOf(' ') + 1, method.indexOf('(')));
        }
        CHECK.isTrue("some twelve classes at most", DutiesHat.class.getDeclaredClasses().length <= 11);
        ownMethods(DutiesHat.class, names);
        for (Class<?> inside : DutiesHat.class.getDeclaredClasses()) {
            CHECK.isTrue(inside + " is static", Modifier.isStatic(inside.getModifiers()));
            CHECK.isTrue(inside + " is not public", !Modifier.isPublic(inside.getModifiers()));
            ownMethods(inside, names);
        }
    }

    private static void ownMethods(Class<?> of, Set<String> publicNames) {
        int fields = 0;
        for (Field field : of.getDeclaredFields()) {
            CHECK.isTrue(field + " is final if static",
                    !Modifier.isStatic(field.getModifiers()) || Modifier.isFinal(field.getModifiers()));
            fields += Modifier.isStatic(field.getModifiers()) ? 0 : 1;
        }
        CHECK.isTrue(of + " has some twenty fields at most", fields <= 20);
        for (Method method : of.getDeclaredMethods()) {
            CHECK.isTrue(method + " takes seven parameters at most", method.getParameterCount() <= 7);
            CHECK.isTrue(method + " bears a name of its own",
                    Modifier.isPublic(method.getModifiers()) || !publicNames.contains(method.getName()));
        }
    }

    private static void source() throws IOException {
        String source = Files.readString(Path.of("src/main/java/DutiesHat.java"), StandardCharsets.UTF_8);
        CHECK.isTrue("the source is ASCII", source.chars().allMatch(c -> c < 128));
        String bare = source.replaceAll("(?s)/\\*.*?\\*/", " ").replaceAll("//[^\n]*", " ")
                .replaceAll("\"[^\"\n]*\"", "\"\"");
        for (String pattern : FORBIDDEN) {
            Matcher matcher = Pattern.compile(pattern).matcher(bare);
            CHECK.isTrue("no " + pattern + " in the source", !matcher.find());
        }
    }
}
