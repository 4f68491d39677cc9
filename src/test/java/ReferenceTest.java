import java.util.List;
import java.util.Random;

/** Long mixed runs of calls, each answer beside that of the Reference. */
public final class ReferenceTest {
    private static final int RUNS = 1500;
    private static final int CALLS = 512;
    private static final int[] ODD = {-1, -2, 3, 8, 10, 12, 16, 20, 32, 99, Integer.MIN_VALUE, Integer.MAX_VALUE};
    private static final String[] NUMBERS = {
        "0", "1", "2", "3", "5", "10", "25", "35", "-5", "-1", "2.5", "3.5", "0.5", "-.5", "+7.",
        "0.0123", "123.45", "00012.5", ".000001", "999999999.999999", "-500000000", "15.000001",
        ".", "+", "", "1.2345678", "1234567890", "1-1", "1.2.3"
    };
    private static final int GOOD_NUMBERS = NUMBERS.length - 7;
    private static final Check CHECK = new Check("ReferenceTest");

    private final Random random;
    private final FactBinder x = new FactBinder();
    private final Reference y = new Reference();
    private final int documents;
    private final int concepts;
    private final StringBuilder history = new StringBuilder();
    private int calls = 0;
    private int textConcept = -1;

    private ReferenceTest(int seed) {
        random = new Random(seed);
        // Few of them make totals, twins and cycles likely; now and then all that there can be.
        boolean isWide = seed % 5 == 4;
        documents = isWide ? 8 : 1 + random.nextInt(3);
        concepts = isWide ? 15 : 1 + random.nextInt(8);
    }

    public static void main(String[] args) {
        int[] kinds = new int[10];
        int agreeing = 0;
        for (int seed = 0; seed < RUNS && CHECK.wrongSoFar() == 0; seed++) {
            ReferenceTest run = new ReferenceTest(seed);
            run.begin();
            int mix = Math.max(40 + run.random.nextInt(CALLS - 340), run.calls + 60);
            while (run.calls < mix) {
                run.step();
            }
            run.lookAtAll();
            CHECK.yes("no more than 512 calls: " + run.calls, run.calls <= CALLS);
            agreeing += run.y.countBoundAndAgreeing();
            for (int problem : run.y.allProblems()) {
                kinds[problem / 10000]++;
            }
            if (CHECK.wrongSoFar() != 0) {
                System.out.println("seed " + seed + ":\n" + run.history);
            }
        }
        for (int kind = 1; kind <= 9; kind++) {
            System.out.println("ReferenceTest: problems of kind " + kind + ": " + kinds[kind]);
            CHECK.yes("kind " + kind + " came often enough", kinds[kind] >= 100);
        }
        System.out.println("ReferenceTest: totals that agree: " + agreeing);
        CHECK.yes("totals agreed often enough", agreeing >= 100);
        CHECK.finish();
    }

    private void due(String call, long want, long got) {
        calls++;
        history.append("  ").append(call).append(" -> ").append(got).append('\n');
        CHECK.due(call, want, got);
    }

    private static long bit(boolean answer) {
        return answer ? 1 : 0;
    }

    /** Mostly a number below the bound, now and then an odd one. */
    private int pick(int bound) {
        return random.nextInt(60) == 0 ? ODD[random.nextInt(ODD.length)] : random.nextInt(bound);
    }

    private void begin() {
        if (random.nextInt(10) != 0) {
            enter();
        }
        for (int i = 0; i < 2 * documents; i++) {
            refer();
        }
        for (int i = 0; i < concepts; i++) {
            concept();
        }
        textConcept = y.concept(0, 0, 0, 0);
        due("concept(0, 0, 0, 0)", textConcept, x.concept(0, 0, 0, 0));
        context();
        unit();
        if (random.nextBoolean()) {
            totalWithParts();
        }
    }

    /** Totals are rare where all is by chance: a concept with arcs to the others, and facts. */
    private void totalWithParts() {
        for (int c = 0; c < concepts; c++) {
            int n = random.nextBoolean() ? 10 : random.nextInt(181) - 90;
            arc(random.nextInt(documents), 0, 0, c, n);
        }
        for (int c = 0; c < concepts; c++) {
            fact(c, 0, 0);
        }
    }

    private void step() {
        int choice = random.nextInt(100);
        if (choice < 3) {
            refer();
        } else if (choice < 4) {
            enter();
        } else if (choice < 5) {
            concept();
        } else if (choice < 12) {
            setting();
        } else if (choice < 32) {
            arc();
        } else if (choice < 36) {
            context();
        } else if (choice < 40) {
            unit();
        } else if (choice < 41) {
            write((char) (random.nextInt(8) == 0 ? random.nextInt(256) : "0123456789.+-".charAt(random.nextInt(13))));
        } else if (choice < 65) {
            fact();
            if (y.isStuck()) {
                textFact();
            }
        } else {
            look();
        }
    }

    private void refer() {
        int a = pick(documents);
        int b = pick(documents);
        due("refer(" + a + ", " + b + ")", bit(y.refer(a, b)), bit(x.refer(a, b)));
    }

    private void enter() {
        int d = pick(documents);
        due("enter(" + d + ")", bit(y.enter(d)), bit(x.enter(d)));
    }

    private void concept() {
        int document = pick(documents);
        int type = random.nextInt(5) == 0 ? pick(3) : 1 + random.nextInt(2);
        int balance = type == 2 || random.nextInt(20) == 0 ? pick(3) : 0;
        int period = random.nextInt(4) == 0 ? pick(2) : 0;
        due("concept(" + document + ", " + type + ", " + balance + ", " + period + ")",
                y.concept(document, type, balance, period), x.concept(document, type, balance, period));
    }

    private void setting() {
        int role = random.nextInt(3) == 0 ? pick(3) : 0;
        int priority = random.nextInt(2) == 0 ? pick(10) : 0;
        boolean prohibits = random.nextInt(4) == 0;
        due("setting(" + role + ", " + priority + ", " + prohibits + ")",
                bit(y.setting(role, priority, prohibits)), bit(x.setting(role, priority, prohibits)));
    }

    private void arc() {
        int document = pick(documents);
        int sort = random.nextInt(3) == 0 ? pick(2) : 0;
        int from = pick(concepts);
        int to = pick(concepts);
        int[] weights = {10, 10, -10, 5, 1, -90, 90, 91, -91, 0, 20, random.nextInt(200) - 100};
        int n = weights[random.nextInt(3) == 0 ? random.nextInt(weights.length) : random.nextInt(3)];
        arc(document, sort, from, to, n);
    }

    private void arc(int document, int sort, int from, int to, int n) {
        due("arc(" + document + ", " + sort + ", " + from + ", " + to + ", " + n + ")",
                y.arc(document, sort, from, to, n), x.arc(document, sort, from, to, n));
    }

    private void context() {
        int entity = random.nextInt(4) == 0 ? pick(10) : 0;
        int start = random.nextInt(3) == 0 ? pick(4) : -1;
        int end = random.nextInt(3) == 0 ? pick(10001) : pick(4);
        int scene = random.nextInt(4) == 0 ? pick(10) : 0;
        due("context(" + entity + ", " + start + ", " + end + ", " + scene + ")",
                y.context(entity, start, end, scene), x.context(entity, start, end, scene));
    }

    private void unit() {
        int a = random.nextInt(2) == 0 ? pick(11) : 6;
        int b = random.nextInt(4) == 0 ? pick(11) : 0;
        int c = random.nextInt(4) == 0 ? pick(11) : 0;
        due("unit(" + a + ", " + b + ", " + c + ")", y.unit(a, b, c), x.unit(a, b, c));
    }

    private void write(char c) {
        due("write((char) " + (int) c + ")", bit(y.write(c)), bit(x.write(c)));
    }

    private void fact() {
        int concept = pick(concepts);
        int context = random.nextInt(2) == 0 ? pick(4) : 0;
        int unit = random.nextInt(3) == 0 ? pick(4) - 1 : 0;
        fact(concept, context, unit);
    }

    /** What is written can become no number any more: only a text takes it away. */
    private void textFact() {
        due("fact(" + textConcept + ", 0, -1, 0, 0)",
                y.fact(textConcept, 0, -1, 0, 0), x.fact(textConcept, 0, -1, 0, 0));
    }

    private void fact(int concept, int context, int unit) {
        String number = NUMBERS[random.nextInt(random.nextInt(6) == 0 ? NUMBERS.length : GOOD_NUMBERS)];
        for (int at = 0; at < number.length(); at++) {
            write(number.charAt(at));
        }
        int mode = random.nextInt(6) == 0 ? pick(5) : 1 + random.nextInt(3);
        int k = random.nextInt(4) == 0 ? random.nextInt(29) - 11 : random.nextInt(3) - 1;
        due("fact(" + concept + ", " + context + ", " + unit + ", " + mode + ", " + k + ")",
                y.fact(concept, context, unit, mode, k), x.fact(concept, context, unit, mode, k));
    }

    private void look() {
        int a = pick(12);
        int b = pick(12);
        switch (random.nextInt(10)) {
            case 0 -> due("discovered(" + a + ")", bit(y.discovered(a)), bit(x.discovered(a)));
            case 1 -> due("left(" + a + ")", bit(y.left(a)), bit(x.left(a)));
            case 2 -> due("sameContext(" + a + ", " + b + ")", bit(y.sameContext(a, b)), bit(x.sameContext(a, b)));
            case 3 -> due("sameUnit(" + a + ", " + b + ")", bit(y.sameUnit(a, b)), bit(x.sameUnit(a, b)));
            case 4 -> due("value(" + a + ")", y.value(a), x.value(a));
            case 5 -> due("places(" + a + ")", y.places(a), x.places(a));
            case 6 -> due("rounded(" + a + ")", y.rounded(a), x.rounded(a));
            case 7 -> due("sum(" + a / 3 + ", " + b + ")", y.sum(a / 3, b), x.sum(a / 3, b));
            case 8 -> due("problems()", y.allProblems().size(), x.problems());
            default -> {
                List<Integer> problems = y.allProblems();
                due("problem(" + a + ")", a >= 0 && a < problems.size() ? problems.get(a) : -1, x.problem(a));
            }
        }
    }

    private void lookAtAll() {
        List<Integer> problems = y.allProblems();
        due("problems()", problems.size(), x.problems());
        for (int k = 0; k < problems.size(); k++) {
            due("problem(" + k + ")", problems.get(k), x.problem(k));
        }
        due("problem(" + problems.size() + ")", -1, x.problem(problems.size()));
        for (int a = 0; a < 32; a++) {
            due("left(" + a + ")", bit(y.left(a)), bit(x.left(a)));
        }
        for (int f = 0; f < 20; f++) {
            due("value(" + f + ")", y.value(f), x.value(f));
            due("places(" + f + ")", y.places(f), x.places(f));
            due("rounded(" + f + ")", y.rounded(f), x.rounded(f));
            for (int role = 0; role <= 2; role++) {
                due("sum(" + role + ", " + f + ")", y.sum(role, f), x.sum(role, f));
            }
        }
    }
}
