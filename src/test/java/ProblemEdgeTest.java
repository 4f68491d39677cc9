import java.math.BigDecimal;

/** The edges of the problems and of sum, each sentence with a test of its own. */
public final class ProblemEdgeTest {
    private static final int TEXT = 0;
    private static final int NUMBER = 1;
    private static final int MONEY = 2;
    private static final int SUM = 0;
    private static final int TREE = 1;
    private static final int NONE = 0;
    private static final int DECIMALS = 1;
    private static final int PRECISION = 2;
    private static final int EXACT = 3;
    private static final int INSTANT = 0;
    private static final int DURATION = 10;
    private static final int CURRENCY = 0;
    private static final int METRES = 1;
    private static final int NO_UNIT = -1;
    private static final Check CHECK = new Check("ProblemEdgeTest");

    public static void main(String[] args) {
        problemsAreCountedFrom0();
        theGreatestNumberOfEveryKind();
        eachProblemIsToldOnce();
        aFactIsUnknownUntilItsDocumentIsDiscovered();
        onlyTheFirstOfTheFourIsTold();
        unitOfEveryType();
        periodOfEveryKind();
        accuracyOfEveryMode();
        theLowestTwinIsTold();
        twinsHaveEqualContextsAndUnits();
        looseForEveryReason();
        signOfEveryPairOfBalances();
        cyclesOfEveryLength();
        everyArcOfACycleIsNeeded();
        rolesOfASumAre0To2();
        factsOfASumAreThere();
        boundByOnePart();
        boundWithASumOf0();
        aTotalMustBeUsable();
        aPartMustBeUsable();
        partsOfTheFirstAndTheLastFact();
        weightsOfEveryN();
        agreesBesideEveryHalf();
        agreesBesideHalvesOfAMillionth();
        precisionOf0And1();
        CHECK.finish();
    }

    /** Document 0 is an entry; the contexts 0 .. 9 are instants, 10 is a duration. */
    private static FactBinder ready() {
        FactBinder x = new FactBinder();
        x.enter(0);
        for (int day = 0; day < 10; day++) {
            x.context(0, -1, day, 0);
        }
        x.context(0, 0, 1, 0);
        x.unit(6, 0, 0);
        x.unit(1, 0, 0);
        return x;
    }

    /** Concepts of instants in document 0. */
    private static FactBinder withConcepts(int count, int type) {
        FactBinder x = ready();
        for (int c = 0; c < count; c++) {
            x.concept(0, type, 0, 0);
        }
        return x;
    }

    private static void exact(FactBinder x, String text, int concept) {
        CHECK.fact(x, text, concept, INSTANT, CURRENCY, EXACT, 0);
    }

    /** "How many problems there are."; "Problem k (from 0); -1 if there is none." */
    private static void problemsAreCountedFrom0() {
        FactBinder x = new FactBinder();
        x.enter(0);
        x.concept(1, NUMBER, 0, 0);
        for (int count = 0; count <= 32; count++) {
            CHECK.due("problems()", count, x.problems());
            CHECK.due("the last of " + count, count == 0 ? -1 : 60000 + 100 * (count - 1), x.problem(count - 1));
            CHECK.due("one behind the last of " + count, -1, x.problem(count));
            CHECK.due("one before the first of " + count, -1, x.problem(-1));
            x.arc(0, TREE, 0, 0, 1);
        }
        CHECK.range("32 problems: problem(k)", 0, 31, k -> x.problem(k) == 60000 + 100 * k);
        CHECK.range("32 problems: problem(k), else -1", 0, 31, k -> x.problem(k) != -1);
        x.enter(1);
        CHECK.due("one cycle is left", 1, x.problems());
        CHECK.range("1 problem: problem(k)", 0, 0, k -> x.problem(k) == 80000);
        CHECK.range("1 problem: problem(k), else -1", 0, 0, k -> x.problem(k) != -1);
        FactBinder none = new FactBinder();
        CHECK.range("no problem: problem(k)", 0, -1, k -> none.problem(k) != -1);
    }

    /** Number facts 0 .. 18 without a fault, none a twin of another. */
    private static FactBinder withNineteenFacts() {
        FactBinder x = withConcepts(1, NUMBER);
        x.concept(7, NUMBER, 0, 0);
        for (int f = 0; f < 19; f++) {
            CHECK.due("fact " + f, f, CHECK.fact(x, "1", 0, f / 2, f % 2, EXACT, 0));
        }
        CHECK.problems("nineteen facts", x);
        return x;
    }

    private static void dueOfLastFact(int want, int concept, int context, int unit, int mode) {
        FactBinder x = withNineteenFacts();
        CHECK.due("the last fact", 19, CHECK.fact(x, "1", concept, context, unit, mode, 0));
        CHECK.problems("the last fact", x, want);
    }

    private static FactBinder withThirtyOneArcs(int balance) {
        FactBinder x = ready();
        x.concept(0, MONEY, balance, 0);
        x.concept(7, MONEY, balance, 0);
        for (int a = 0; a < 31; a++) {
            CHECK.due("arc " + a, a, x.arc(0, SUM, 0, 0, a + 1));
        }
        return x;
    }

    /** "PROBLEMS are numbers kind * 10000 + 100 * x + y" */
    private static void theGreatestNumberOfEveryKind() {
        dueOfLastFact(11900, 1, 9, 1, EXACT);
        dueOfLastFact(21900, 0, 9, NO_UNIT, EXACT);
        dueOfLastFact(31900, 0, DURATION, 1, EXACT);
        dueOfLastFact(41900, 0, 9, 1, NONE);
        dueOfLastFact(51918, 0, 9, 0, EXACT);
        FactBinder loose = withThirtyOneArcs(0);
        CHECK.due("the last arc", 31, loose.arc(0, SUM, 0, 1, 1));
        CHECK.problems("a loose arc", loose, 63100);
        FactBinder sign = withThirtyOneArcs(1);
        CHECK.due("the last arc", 31, sign.arc(0, SUM, 0, 0, -1));
        CHECK.problems("a sign", sign, 73100);
        FactBinder cycle = withConcepts(16, TEXT);
        cycle.setting(2, 0, false);
        cycle.arc(0, TREE, 15, 15, 1);
        CHECK.problems("a cycle", cycle, 80215);
        FactBinder total = withNineteenFacts();
        total.concept(0, NUMBER, 0, 0);
        total.setting(2, 0, false);
        total.arc(0, SUM, 2, 0, 10);
        CHECK.due("the last fact", 19, CHECK.fact(total, "2", 2, 9, 0, EXACT, 0));
        CHECK.problems("a total", total, 90219);
    }

    /** "told by rising numbers, each once" */
    private static void eachProblemIsToldOnce() {
        FactBinder x = withConcepts(3, NUMBER);
        x.concept(7, NUMBER, 0, 0);
        exact(x, "1", 0);
        exact(x, "1", 0);
        exact(x, "1", 0);
        x.arc(0, TREE, 3, 3, 1);
        x.arc(0, TREE, 1, 1, 1);
        x.arc(0, TREE, 1, 1, 2);
        x.arc(0, TREE, 1, 2, 1);
        x.arc(0, TREE, 2, 1, 1);
        x.arc(0, SUM, 1, 2, 10);
        x.arc(0, SUM, 1, 2, 20);
        exact(x, "5", 1);
        exact(x, "5", 2);
        CHECK.problems("several reasons for each", x, 50100, 50200, 60000, 80001, 80002, 90003);
        CHECK.problems("asked again", x, 50100, 50200, 60000, 80001, 80002, 90003);
    }

    /** "1 UNKNOWN: fact x (y = 0) is of a concept that is not known." */
    private static void aFactIsUnknownUntilItsDocumentIsDiscovered() {
        for (int type = TEXT; type <= MONEY; type++) {
            FactBinder x = ready();
            x.concept(7, type, 0, 0);
            boolean isText = type == TEXT;
            CHECK.fact(x, "1", 0, INSTANT, isText ? NO_UNIT : CURRENCY, isText ? NONE : EXACT, 0);
            CHECK.problems("not discovered", x, 10000);
            x.refer(6, 7);
            CHECK.problems("referred to by one that is not discovered", x, 10000);
            x.refer(0, 6);
            CHECK.problems("discovered", x);
        }
    }

    /** "Else: 2 UNIT ... Else: 3 PERIOD ... Else: 4 ACCURACY ... (At most one of these for a fact.)" */
    private static void onlyTheFirstOfTheFourIsTold() {
        for (int type = TEXT; type <= MONEY; type++) {
            FactBinder x = ready();
            x.concept(7, type, 0, 0);
            boolean isText = type == TEXT;
            int wrongUnit = isText ? CURRENCY : NO_UNIT;
            int unit = isText ? NO_UNIT : CURRENCY;
            int wrongMode = isText ? EXACT : NONE;
            CHECK.fact(x, "1", 0, DURATION, wrongUnit, wrongMode, 0);
            CHECK.problems("all is wrong", x, 10000);
            x.enter(7);
            CHECK.problems("unit, period and accuracy are", x, 20000);
            CHECK.fact(x, "1", 0, DURATION, unit, wrongMode, 0);
            CHECK.problems("period and accuracy are", x, 20000, 30100);
            CHECK.fact(x, "1", 0, INSTANT, unit, wrongMode, 0);
            CHECK.problems("accuracy is", x, 20000, 30100, 40200);
            CHECK.fact(x, "1", 0, 1, unit, isText ? NONE : EXACT, 0);
            CHECK.problems("nothing is", x, 20000, 30100, 40200);
        }
    }

    private static void dueFault(int want, int type, int period, int context, int unit, int mode) {
        FactBinder x = ready();
        x.concept(0, type, 0, period);
        CHECK.fact(x, "1", 0, context, unit, mode, 0);
        String state = "type " + type + ", period " + period + ", context " + context + ", unit " + unit + ", mode " + mode;
        CHECK.due(state + ": problems()", want == -1 ? 0 : 1, x.problems());
        CHECK.due(state + ": problem(0)", want, x.problem(0));
    }

    /** "the concept's type is 0 and the fact has a unit, or it is not 0 and it has none, or it is 2 and ..." */
    private static void unitOfEveryType() {
        dueFault(-1, TEXT, 0, INSTANT, NO_UNIT, NONE);
        dueFault(20000, TEXT, 0, INSTANT, CURRENCY, NONE);
        dueFault(20000, TEXT, 0, INSTANT, METRES, NONE);
        dueFault(20000, NUMBER, 0, INSTANT, NO_UNIT, EXACT);
        dueFault(-1, NUMBER, 0, INSTANT, CURRENCY, EXACT);
        dueFault(-1, NUMBER, 0, INSTANT, METRES, EXACT);
        dueFault(20000, MONEY, 0, INSTANT, NO_UNIT, EXACT);
        dueFault(-1, MONEY, 0, INSTANT, CURRENCY, EXACT);
        dueFault(20000, MONEY, 0, INSTANT, METRES, EXACT);
    }

    /** "3 PERIOD: the context is of another kind of period than the concept." */
    private static void periodOfEveryKind() {
        for (int type = TEXT; type <= MONEY; type++) {
            int unit = type == TEXT ? NO_UNIT : CURRENCY;
            int mode = type == TEXT ? NONE : EXACT;
            dueFault(-1, type, 0, INSTANT, unit, mode);
            dueFault(30000, type, 0, DURATION, unit, mode);
            dueFault(30000, type, 1, INSTANT, unit, mode);
            dueFault(-1, type, 1, DURATION, unit, mode);
        }
    }

    /** "4 ACCURACY: the type is 0 and it has an accuracy, or it is not 0 and it has none." */
    private static void accuracyOfEveryMode() {
        for (int mode = NONE; mode <= EXACT; mode++) {
            dueFault(mode == NONE ? -1 : 40000, TEXT, 0, INSTANT, NO_UNIT, mode);
            dueFault(mode == NONE ? 40000 : -1, NUMBER, 0, INSTANT, METRES, mode);
            dueFault(mode == NONE ? 40000 : -1, MONEY, 0, INSTANT, CURRENCY, mode);
        }
    }

    /** "5 TWIN: fact x has a twin with a lower number; y is the lowest such." */
    private static void theLowestTwinIsTold() {
        FactBinder x = withConcepts(2, NUMBER);
        exact(x, "1", 0);
        CHECK.problems("alone", x);
        exact(x, "1", 1);
        CHECK.problems("two of two concepts", x);
        exact(x, "2", 1);
        CHECK.problems("the first has a twin with a higher number alone", x, 50201);
        exact(x, "3", 1);
        CHECK.problems("the lowest, not the last", x, 50201, 50301);
        exact(x, "4", 0);
        CHECK.problems("the first of all", x, 50201, 50301, 50400);
    }

    /** "TWINS if they are of the same concept, their contexts are equal, and they have equal units or both none" */
    private static void twinsHaveEqualContextsAndUnits() {
        int[][] contexts = {{1, -1, 5, 1}, {1, -1, 5, 1}, {2, -1, 5, 1}, {1, -1, 6, 1}, {1, -1, 5, 2}, {1, 4, 5, 1}};
        int[][] units = {{6, 0, 0}, {6, 0, 0}, {7, 0, 0}};
        for (int c = 0; c < contexts.length; c++) {
            for (int u = -1; u < units.length; u++) {
                for (int first = -1; first <= 0; first++) {
                    FactBinder x = new FactBinder();
                    x.enter(0);
                    x.concept(0, TEXT, 0, 0);
                    for (int[] context : contexts) {
                        x.context(context[0], context[1], context[2], context[3]);
                    }
                    for (int[] unit : units) {
                        x.unit(unit[0], unit[1], unit[2]);
                    }
                    x.fact(0, 0, first, NONE, 0);
                    x.fact(0, c, u, DECIMALS, 2);
                    boolean isTwin = c <= 1 && (first == -1 ? u == -1 : u == 0 || u == 1);
                    String state = "context " + c + ", units " + first + " and " + u;
                    CHECK.due(state, isTwin ? 50100 : -1, lastOfKind(x, 5));
                }
            }
        }
    }

    private static int lastOfKind(FactBinder x, int kind) {
        int last = -1;
        for (int k = 0; k < x.problems(); k++) {
            last = x.problem(k) / 10000 == kind ? x.problem(k) : last;
        }
        return last;
    }

    /** "6 LOOSE: arc x (y = 0) lies in a discovered document and does not count." */
    private static void looseForEveryReason() {
        for (int sort = SUM; sort <= TREE; sort++) {
            for (int set = 0; set < 8; set++) {
                FactBinder x = new FactBinder();
                x.concept(1, NUMBER, 0, 0);
                x.concept(2, NUMBER, 0, 0);
                x.arc(0, sort, 0, 1, 10);
                for (int d = 0; d < 3; d++) {
                    if ((set >> d & 1) != 0) {
                        x.enter(d);
                    }
                }
                boolean isLoose = (set & 1) != 0 && set != 7;
                CHECK.due("discovered " + set + ": problem(0)", isLoose ? 60000 : -1, x.problem(0));
                CHECK.due("discovered " + set + ": left(0)", set == 7 ? 1 : 0, x.left(0) ? 1 : 0);
            }
        }
        FactBinder y = withConcepts(1, NUMBER);
        y.setting(0, 0, true);
        y.arc(0, SUM, 0, 0, 10);
        CHECK.problems("a prohibiting arc counts, though it is not left", y);
    }

    /** "7 SIGN: ... these are the same and n is negative, or they differ and n is positive" */
    private static void signOfEveryPairOfBalances() {
        int[] weights = {-90, -2, -1, 1, 2, 90};
        for (int from = 0; from <= 2; from++) {
            for (int to = 0; to <= 2; to++) {
                for (int n : weights) {
                    FactBinder x = new FactBinder();
                    x.enter(0);
                    x.concept(0, MONEY, from, 0);
                    x.concept(0, MONEY, to, 0);
                    x.arc(0, TREE, 0, 1, n);
                    x.arc(0, SUM, 0, 1, n);
                    boolean isWrong = from != 0 && to != 0 && (from == to ? n < 0 : n > 0);
                    CHECK.due("balances " + from + " and " + to + ", n " + n, isWrong ? 70100 : -1, x.problem(0));
                }
            }
        }
    }

    /** "8 CYCLE: in role x a way of one or more TREE arcs that are left leads from concept y back to it." */
    private static void cyclesOfEveryLength() {
        for (int length = 1; length <= 16; length++) {
            int role = length % 3;
            FactBinder x = withConcepts(16, TEXT);
            x.setting(role, 0, false);
            for (int c = 0; c < 15; c++) {
                x.arc(0, TREE, c, c + 1, 1);
            }
            CHECK.problems("a way without an end at its start", x);
            int first = 16 - length;
            x.arc(0, TREE, 15, first, 1);
            int[] want = new int[length];
            for (int i = 0; i < length; i++) {
                want[i] = 80000 + 100 * role + first + i;
            }
            CHECK.problems("a cycle of " + length, x, want);
        }
    }

    /** "TREE arcs that are left": without any one of them the way does not lead back. */
    private static void everyArcOfACycleIsNeeded() {
        for (int missing = 0; missing < 16; missing++) {
            FactBinder x = withConcepts(16, TEXT);
            for (int c = 0; c < 16; c++) {
                x.arc(0, TREE, c, (c + 5) % 16, 1);
            }
            CHECK.due("all of them", 16, x.problems());
            x.setting(0, 0, true);
            x.arc(0, TREE, missing, (missing + 5) % 16, 1);
            CHECK.problems("all but the one from " + missing, x);
        }
    }

    /** "0 if it is not, or one does not exist": the role */
    private static void rolesOfASumAre0To2() {
        FactBinder x = withConcepts(2, NUMBER);
        for (int role = 0; role <= 2; role++) {
            x.setting(role, 0, false);
            x.arc(0, SUM, 0, 1, 10 + role);
        }
        exact(x, "3", 0);
        exact(x, "1", 1);
        CHECK.range("sum(r, 0)", 0, 2, r -> x.sum(r, 0) == 10000000L + 1000000L * r);
        CHECK.range("sum(r, 0), else 0", 0, 2, r -> x.sum(r, 0) != 0);
        CHECK.problems("each role", x, 90000, 90100, 90200);
    }

    /** "0 if it is not, or one does not exist": the fact */
    private static void factsOfASumAreThere() {
        FactBinder x = withConcepts(1, NUMBER);
        x.arc(0, SUM, 0, 0, 20);
        CHECK.range("no fact: sum(0, f)", 0, -1, f -> x.sum(0, f) != 0);
        for (int f = 0; f < 20; f++) {
            CHECK.fact(x, "1", 0, f / 2, f % 2, EXACT, 0);
        }
        CHECK.range("20 facts: sum(0, f)", 0, 19, f -> x.sum(0, f) == 20000000L);
        CHECK.range("20 facts: sum(0, f), else 0", 0, 19, f -> x.sum(0, f) != 0);
    }

    /** "A fact s is BOUND in a role if ... it has some PARTS there" */
    private static void boundByOnePart() {
        FactBinder x = withConcepts(2, NUMBER);
        exact(x, "5", 0);
        exact(x, "4", 1);
        CHECK.due("no arc", 0, x.sum(0, 0));
        CHECK.problems("no arc", x);
        x.arc(0, SUM, 1, 0, 10);
        CHECK.due("an arc the other way", 0, x.sum(0, 0));
        CHECK.problems("an arc the other way", x, 90001);
        x.arc(0, SUM, 0, 1, 10);
        CHECK.due("one part", 40000000L, x.sum(0, 0));
        CHECK.problems("one part", x, 90000, 90001);

        FactBinder y = withConcepts(2, NUMBER);
        y.arc(0, SUM, 0, 1, 10);
        exact(y, "5", 0);
        CHECK.due("no part", 0, y.sum(0, 0));
        CHECK.problems("no part", y);
        CHECK.fact(y, "4", 1, 1, CURRENCY, EXACT, 0);
        CHECK.fact(y, "4", 1, INSTANT, METRES, EXACT, 0);
        CHECK.due("no part in its context with its unit", 0, y.sum(0, 0));
        CHECK.problems("no part in its context with its unit", y);
    }

    /** A sum of 0 of some parts is not the 0 of a fact that is not bound. */
    private static void boundWithASumOf0() {
        String[] totals = {"0", "0.000001", "-1"};
        for (String total : totals) {
            FactBinder x = withConcepts(3, NUMBER);
            x.arc(0, SUM, 0, 1, 10);
            x.arc(0, SUM, 0, 2, -10);
            exact(x, total, 0);
            exact(x, "7", 1);
            exact(x, "7", 2);
            CHECK.due("the parts cancel out", 0, x.sum(0, 0));
            CHECK.due("total " + total, total.equals("0") ? -1 : 90000, x.problem(0));

            FactBinder y = withConcepts(2, NUMBER);
            y.arc(0, SUM, 0, 1, 10);
            exact(y, total, 0);
            exact(y, "0", 1);
            CHECK.due("a part that is 0", 0, y.sum(0, 0));
            CHECK.due("total " + total, total.equals("0") ? -1 : 90000, y.problem(0));
        }
    }

    /** "if it is usable and has no twin": each reason why a total is not bound, its part being fit */
    private static void aTotalMustBeUsable() {
        FactBinder unit = ready();
        unit.concept(0, MONEY, 0, 0);
        unit.concept(0, NUMBER, 0, 0);
        dueUnbound(unit, 20000, INSTANT, METRES, EXACT);
        FactBinder period = ready();
        period.concept(0, NUMBER, 0, 1);
        period.concept(0, NUMBER, 0, 0);
        dueUnbound(period, 30000, INSTANT, CURRENCY, EXACT);
        dueUnbound(withConcepts(2, NUMBER), 40000, INSTANT, CURRENCY, NONE);
        FactBinder twin = withConcepts(2, NUMBER);
        dueSum(twin, 10000000L);
        exact(twin, "2", 0);
        CHECK.due("a total with a twin of a higher number", 0, twin.sum(0, 0));
        CHECK.due("a total with a twin of a lower number", 0, twin.sum(0, 2));
        CHECK.problems("a total with a twin", twin, 50200);
    }

    /** Total 0 has the context, unit and mode; its part 1 is exact. */
    private static void dueUnbound(FactBinder x, int problem, int context, int unit, int mode) {
        x.arc(0, SUM, 0, 1, 10);
        CHECK.fact(x, "2", 0, context, unit, mode, 0);
        CHECK.fact(x, "1", 1, context, unit, EXACT, 0);
        CHECK.due("sum of a total with the problem " + problem, 0, x.sum(0, 0));
        CHECK.problems("a total with a problem", x, problem);
    }

    private static void dueSum(FactBinder x, long want) {
        x.arc(0, SUM, 0, 1, 10);
        exact(x, "2", 0);
        exact(x, "1", 1);
        CHECK.due("sum(0, 0)", want, x.sum(0, 0));
    }

    /** "the facts of the concept to which it goes that are usable, have no twin" */
    private static void aPartMustBeUsable() {
        FactBinder unit = ready();
        unit.concept(0, NUMBER, 0, 0);
        unit.concept(0, MONEY, 0, 0);
        dueNoPart(unit, 20100, METRES, EXACT);
        FactBinder period = ready();
        period.concept(0, NUMBER, 0, 0);
        period.concept(0, NUMBER, 0, 1);
        dueNoPart(period, 30100, CURRENCY, EXACT);
        dueNoPart(withConcepts(2, NUMBER), 40100, CURRENCY, NONE);
        FactBinder twin = withConcepts(2, NUMBER);
        dueSum(twin, 10000000L);
        exact(twin, "1", 1);
        CHECK.due("two parts that are twins", 0, twin.sum(0, 0));
        CHECK.problems("two parts that are twins", twin, 50201);
    }

    private static void dueNoPart(FactBinder x, int problem, int unit, int partMode) {
        x.arc(0, SUM, 0, 1, 10);
        CHECK.fact(x, "2", 0, INSTANT, unit, EXACT, 0);
        CHECK.fact(x, "1", 1, INSTANT, unit, partMode, 0);
        CHECK.due("sum without a part but one with the problem " + problem, 0, x.sum(0, 0));
        CHECK.problems("a part with a problem", x, problem);
    }

    /** A part may have a higher or a lower number than its total, the first and the last too. */
    private static void partsOfTheFirstAndTheLastFact() {
        FactBinder x = withConcepts(3, NUMBER);
        x.arc(0, SUM, 1, 2, 10);
        x.setting(1, 0, false);
        x.arc(0, SUM, 2, 1, 10);
        CHECK.fact(x, "3", 1, 9, METRES, EXACT, 0);
        for (int f = 1; f < 19; f++) {
            CHECK.fact(x, "1", 0, f / 2, f % 2, EXACT, 0);
        }
        CHECK.due("the last fact", 19, CHECK.fact(x, "4", 2, 9, METRES, EXACT, 0));
        CHECK.due("the last is a part of the first", 40000000L, x.sum(0, 0));
        CHECK.due("the first is a part of the last", 30000000L, x.sum(1, 19));
        CHECK.problems("both do not agree", x, 90000, 90119);
    }

    /** "Its SUM is the sum of n * rounded value over its parts." */
    private static void weightsOfEveryN() {
        for (int n = -90; n <= 90; n++) {
            if (n != 0) {
                FactBinder x = withConcepts(2, NUMBER);
                x.arc(0, SUM, 0, 1, n);
                exact(x, BigDecimal.valueOf(n, 1).toPlainString(), 0);
                CHECK.fact(x, "1.4", 1, INSTANT, CURRENCY, DECIMALS, 0);
                CHECK.due("sum with n " + n, n * 1000000L, x.sum(0, 0));
                CHECK.problems("it agrees", x);
            }
        }
    }

    /** "and ROUND(its sum, 10 to the (7 - places of s)) is 10 * the rounded value of s" */
    private static void agreesBesideEveryHalf() {
        for (int d = -9; d <= 5; d++) {
            dueMultiple(0, d, 9);
            dueMultiple(0, d, 10);
            dueMultiple(1, d, 11);
            if (d > -9) {
                dueMultiple(1, d, 29);
                dueMultiple(2, d, 30);
                dueMultiple(2, d, 31);
                dueMultiple(2, d, 49);
                dueMultiple(2, d, 50);
                dueMultiple(3, d, 51);
            }
        }
    }

    /** The same for 6 places, whose half a step is less than any part, but not than some tenths of it. */
    private static void agreesBesideHalvesOfAMillionth() {
        int[] tenths = {1, 4, 5, 6, 14, 15, 16, 24, 25, 26, 34, 35, 36, 90};
        int[] millionths = {0, 0, 0, 1, 1, 2, 2, 2, 2, 3, 3, 4, 4, 9};
        for (int i = 0; i < tenths.length; i++) {
            for (int total = 0; total <= 9; total++) {
                for (int sign = -1; sign <= 1; sign += 2) {
                    FactBinder x = withConcepts(2, NUMBER);
                    x.arc(0, SUM, 0, 1, sign * tenths[i]);
                    exact(x, BigDecimal.valueOf(sign * total, 6).toPlainString(), 0);
                    exact(x, ".000001", 1);
                    String state = sign * total + " millionths, n " + sign * tenths[i];
                    CHECK.due(state, total == millionths[i] ? -1 : 90000, x.problem(0));
                }
            }
        }
    }

    /** A part of half a step of s, n tenths of it: s agrees if it is that multiple of the step alone. */
    private static void dueMultiple(int multiple, int d, int n) {
        for (int other = 0; other <= (d > -9 ? 4 : 0); other++) {
            dueAgreement(other == multiple, other, d, n);
            dueAgreement(other == multiple, -other, d, -n);
        }
        if (d == -9) {
            // 10 to the 9 cannot be written, but is what this number is rounded to.
            dueAgreement(multiple == 1, "999999999.999999", d, n);
            dueAgreement(multiple == 1, "-999999999.999999", d, -n);
        }
    }

    private static void dueAgreement(boolean agrees, int multiple, int d, int n) {
        dueAgreement(agrees, BigDecimal.valueOf(multiple, d).toPlainString(), d, n);
    }

    private static void dueAgreement(boolean agrees, String total, int d, int n) {
        FactBinder x = withConcepts(2, NUMBER);
        x.arc(0, SUM, 0, 1, n);
        CHECK.fact(x, total, 0, INSTANT, CURRENCY, DECIMALS, d);
        exact(x, BigDecimal.valueOf(5, d + 1).toPlainString(), 1);
        String state = total + " with DECIMALS " + d + ", n " + n;
        CHECK.due(state, agrees ? -1 : 90000, x.problem(0));
    }

    /** "It agrees if it and its parts are all not of PRECISION 0" */
    private static void precisionOf0And1() {
        for (int ofTotal = 0; ofTotal <= 1; ofTotal++) {
            for (int ofPart = 0; ofPart <= 1; ofPart++) {
                FactBinder x = withConcepts(2, NUMBER);
                x.arc(0, SUM, 0, 1, 10);
                CHECK.fact(x, "0", 0, INSTANT, CURRENCY, PRECISION, ofTotal);
                CHECK.fact(x, "0", 1, INSTANT, CURRENCY, PRECISION, ofPart);
                boolean agrees = ofTotal == 1 && ofPart == 1;
                CHECK.due("PRECISION " + ofTotal + " and " + ofPart, agrees ? -1 : 90000, x.problem(0));
            }
        }
        int[] modes = {DECIMALS, EXACT};
        for (int mode : modes) {
            FactBinder x = withConcepts(2, NUMBER);
            x.arc(0, SUM, 0, 1, 10);
            CHECK.fact(x, "5", 0, INSTANT, CURRENCY, mode, 0);
            CHECK.fact(x, "5", 1, INSTANT, CURRENCY, mode, 0);
            CHECK.problems("k is 0, but not of PRECISION", x);
        }
    }
}
