import java.io.IOException;
import java.lang.reflect.Executable;
import java.lang.reflect.Field;
import java.lang.reflect.Modifier;
import java.nio.file.Files;
import java.nio.file.Path;
import java.util.ArrayList;
import java.util.Arrays;
import java.util.HashSet;
import java.util.List;
import java.util.Map;
import java.util.Set;
import java.util.TreeMap;
import java.util.regex.Matcher;
import java.util.regex.Pattern;

/** The rules of LANGUAGE.md that can be seen from the program's text and its classes. */
public final class LanguageTest {
    private static final Path PROGRAM = Path.of("src/main/java/FactBinder.java");
    private static final Set<String> LIBRARY = Set.of("Math");
    private static final Set<String> REFUSED_WORDS = Set.of(
            "import", "package", "throw", "throws", "try", "catch", "finally", "synchronized", "assert", "native",
            "volatile", "transient", "protected", "double", "float", "var");
    private static final int MOST_LINES = 60;
    private static final int MOST_PARAMETERS = 7;
    private static final int MOST_CLASSES = 12;
    private static final int MOST_FIELDS = 20;
    private static final int MOST_DEPTH = 8;
    private static final Pattern MEMBER = Pattern.compile("^( {4}| {8})(?:public|private)[^=;(]*\\b(\\w+)\\(.*");
    private static final Pattern CALL = Pattern.compile("\\b(\\w+)\\(");
    private static final Check CHECK = new Check("LanguageTest");

    public static void main(String[] args) throws IOException {
        List<Class<?>> classes = new ArrayList<>(List.of(FactBinder.class));
        classes.addAll(Arrays.asList(FactBinder.class.getDeclaredClasses()));
        CHECK.yes("classes: " + classes.size(), classes.size() <= MOST_CLASSES);
        for (Class<?> one : classes) {
            CHECK.due(one + " holds no class deeper in", one == FactBinder.class ? classes.size() - 1 : 0, one.getDeclaredClasses().length);
            fieldsAreAllowed(one);
            parametersAreFew(one);
        }
        String text = Files.readString(PROGRAM);
        wordsAreAllowed(withoutComments(text), classes);
        Map<String, String> bodies = bodies(withoutComments(text));
        CHECK.yes("methods were found: " + bodies.size(), bodies.size() > 50);
        for (String name : bodies.keySet()) {
            callsAreShallow(name, 1, bodies);
        }
        CHECK.finish();
    }

    private static void fieldsAreAllowed(Class<?> one) {
        int fields = 0;
        for (Field field : one.getDeclaredFields()) {
            boolean isStatic = Modifier.isStatic(field.getModifiers());
            fields += isStatic ? 0 : 1;
            CHECK.yes(field + " is final if static", !isStatic || Modifier.isFinal(field.getModifiers()));
            CHECK.yes(field + " is of an allowed type", isAllowed(field.getType()));
        }
        CHECK.yes(one + ": fields: " + fields, fields <= MOST_FIELDS);
    }

    private static boolean isAllowed(Class<?> type) {
        Class<?> element = type.isArray() ? type.getComponentType() : type;
        boolean isOwn = element.getDeclaringClass() == FactBinder.class;
        return element.isPrimitive() && element != double.class && element != float.class || isOwn;
    }

    private static void parametersAreFew(Class<?> one) {
        List<Executable> all = new ArrayList<>(Arrays.asList(one.getDeclaredMethods()));
        all.addAll(Arrays.asList(one.getDeclaredConstructors()));
        for (Executable each : all) {
            CHECK.yes(each + " has few parameters", each.getParameterCount() <= MOST_PARAMETERS);
        }
    }

    private static String withoutComments(String text) {
        return text.replaceAll("(?s)/\\*.*?\\*/", " ").replaceAll("//[^\n]*", " ");
    }

    private static void wordsAreAllowed(String code, List<Class<?>> classes) {
        Set<String> names = new HashSet<>(LIBRARY);
        for (Class<?> one : classes) {
            names.add(one.getSimpleName());
        }
        Matcher word = Pattern.compile("[A-Za-z_][A-Za-z_0-9]*").matcher(code);
        while (word.find()) {
            String found = word.group();
            CHECK.no("the word " + found, REFUSED_WORDS.contains(found));
            boolean isTypeName = Character.isUpperCase(found.charAt(0)) && !found.equals(found.toUpperCase());
            CHECK.yes("the name " + found, !isTypeName || names.contains(found));
        }
        CHECK.no("a lambda", code.contains("->"));
        CHECK.no("a method reference", code.contains("::"));
    }

    /**
     * The lines of each method and constructor by its name, those of one name together. A member's
     * closing brace stands below the first letter of its first line.
     */
    private static Map<String, String> bodies(String code) {
        Map<String, String> bodies = new TreeMap<>();
        String[] lines = code.split("\n");
        for (int at = 0; at < lines.length; at++) {
            Matcher first = MEMBER.matcher(lines[at]);
            if (first.matches()) {
                int end = at;
                while (end < lines.length && !lines[end].equals(first.group(1) + "}")) {
                    end++;
                }
                CHECK.yes("short enough: " + lines[at].trim(), end - at + 1 <= MOST_LINES);
                String body = String.join("\n", Arrays.copyOfRange(lines, at + 1, end));
                bodies.merge(first.group(2), body, (one, other) -> one + "\n" + other);
            }
        }
        return bodies;
    }

    /** A method that calls itself, by way of others too, goes too deep at once. */
    private static void callsAreShallow(String name, int depth, Map<String, String> bodies) {
        CHECK.yes("calls down to " + name + ": " + depth, depth <= MOST_DEPTH);
        Matcher call = CALL.matcher(depth <= MOST_DEPTH ? bodies.get(name) : "");
        while (call.find()) {
            if (bodies.containsKey(call.group(1))) {
                callsAreShallow(call.group(1), depth + 1, bodies);
            }
        }
    }
}
