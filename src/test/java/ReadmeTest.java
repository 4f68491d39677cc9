import java.io.IOException;
import java.lang.reflect.Method;
import java.lang.reflect.Modifier;
import java.nio.file.Files;
import java.nio.file.Path;
import java.util.Set;
import java.util.TreeSet;
import java.util.regex.Matcher;
import java.util.regex.Pattern;
import java.util.stream.Stream;

/** README.md tells every call and every test, and its example is the one that is run here. */
public final class ReadmeTest {
    private static final Path README = Path.of("README.md");
    private static final Path TESTS = Path.of("src/test/java");
    private static final Check CHECK = new Check("ReadmeTest");

    public static void main(String[] args) throws IOException {
        String readme = Files.readString(README);
        callsAreThoseOfTheFace(readme);
        testsAreTold(readme);
        CHECK.yes("the example of README.md is the one that is run", readme.contains("```java\n" + ownExample() + "```\n"));
        exampleHolds();
        CHECK.finish();
    }

    private static void callsAreThoseOfTheFace(String readme) {
        Set<String> want = new TreeSet<>();
        for (Method method : FactBinder.class.getDeclaredMethods()) {
            if (Modifier.isPublic(method.getModifiers())) {
                want.add(FaceTest.told(method));
            }
        }
        Set<String> told = new TreeSet<>();
        Matcher row = Pattern.compile("(?m)^\\| `(\\w+ \\w+\\(.*?\\))` \\|").matcher(readme);
        while (row.find()) {
            told.add(row.group(1).replaceAll("(int|char|boolean) \\w+(,?) ?(?=[^(]*\\)$)", "$1$2"));
        }
        CHECK.yes("README.md tells the calls " + told, told.equals(want));
        CHECK.yes("README.md tells the constructor", readme.contains("| `FactBinder()` |"));
    }

    private static void testsAreTold(String readme) throws IOException {
        try (Stream<Path> files = Files.list(TESTS)) {
            for (Path file : files.toList()) {
                String name = file.getFileName().toString().replace(".java", "");
                CHECK.yes("README.md tells " + name, !name.endsWith("Test") || readme.contains("`" + name + "`"));
            }
        }
    }

    private static String ownExample() throws IOException {
        String source = Files.readString(TESTS.resolve("ReadmeTest.java"));
        int start = source.indexOf("\n        FactBinder binder =") + 1;
        int end = source.indexOf("        CHECK.due(\"value\"", start);
        return source.substring(start, end).replaceAll("(?m)^ {8}", "");
    }

    private static void exampleHolds() {
        FactBinder binder = new FactBinder();
        binder.enter(0);                                  // document 0 is an entry of the report
        int assets = binder.concept(0, 2, 1, 0);          // in document 0: money, debit, instant
        int cash = binder.concept(0, 2, 1, 0);
        binder.setting(0, 0, false);                      // arcs: role 0, priority 0, not prohibiting
        binder.arc(0, 0, assets, cash, 10);               // SUM with the weight 1.0 (ten tenths)
        int day = binder.context(1, -1, 365, 0);          // entity 1, the instant 365, scene 0
        int euro = binder.unit(6, 0, 0);                  // the currency 6, over none

        binder.write('5');
        int total = binder.fact(assets, day, euro, 3, 0); // 5, EXACT
        binder.write('4');
        int part = binder.fact(cash, day, euro, 1, 0);    // 4, DECIMALS 0

        long value = binder.value(part);                  // 4000000 millionths
        long sum = binder.sum(0, total);                  // 40000000: 10 tenths * 4000000
        int problems = binder.problems();                 // 1
        int problem = binder.problem(0);                  // 90000: TOTAL, in role 0 fact 0 does not agree
        CHECK.due("value", 4000000, value);
        CHECK.due("sum", 40000000, sum);
        CHECK.due("problems", 1, problems);
        CHECK.due("problem", 90000, problem);
    }
}
