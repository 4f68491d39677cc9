import java.util.ArrayList;
import java.util.List;

/** The edges of contexts and units, each sentence with a test of its own. */
public final class ReportEdgeTest {
    private static final int MIN = Integer.MIN_VALUE;
    private static final int MAX = Integer.MAX_VALUE;
    private static final int EXACT = 3;
    private static final Check CHECK = new Check("ReportEdgeTest");

    public static void main(String[] args) {
        entitiesAndScenesAre0To9();
        daysAre0To9999();
        theFirstDayIsBeforeTheSecond();
        atMost12Contexts();
        contextsDifferByAnyOfTheirParts();
        measuresAre1To9();
        noMeasureIsAboveAndBelow();
        atMost8Units();
        unitsAreEqualInAnyOrderAndAsOften();
        currenciesAre6AndMore();
        CHECK.finish();
    }

    /** "A CONTEXT has an entity 0 .. 9, a scene 0 .. 9" */
    private static void entitiesAndScenesAre0To9() {
        CHECK.numbered("context(e, -1, 0, 0)", 0, 9, e -> new FactBinder().context(e, -1, 0, 0));
        CHECK.numbered("context(e, 3, 4, 9)", 0, 9, e -> new FactBinder().context(e, 3, 4, 9));
        CHECK.numbered("context(0, -1, 0, s)", 0, 9, s -> new FactBinder().context(0, -1, 0, s));
        CHECK.numbered("context(9, 3, 4, s)", 0, 9, s -> new FactBinder().context(9, 3, 4, s));
    }

    /** "days are 0 .. 9999"; "with start = -1 it is the instant end" */
    private static void daysAre0To9999() {
        CHECK.numbered("the instant", 0, 9999, day -> new FactBinder().context(0, -1, day, 0));
        CHECK.numbered("a duration's end", 1, 9999, day -> new FactBinder().context(0, 0, day, 0));
        CHECK.numbered("the last end", 9999, 9999, day -> new FactBinder().context(0, 9998, day, 0));
        CHECK.numbered("a start, or the instant 9999", -1, 9998, day -> new FactBinder().context(0, day, 9999, 0));
        CHECK.numbered("a start, or the instant 0", -1, -1, day -> new FactBinder().context(0, day, 0, 0));
    }

    /** "a duration, two days, the first before the second" */
    private static void theFirstDayIsBeforeTheSecond() {
        int[] days = {MIN, -2, -1, 0, 1, 2, 3, 5000, 9997, 9998, 9999, 10000, 10001, MAX};
        for (int start : days) {
            for (int end : days) {
                boolean isEnd = end >= 0 && end <= 9999;
                boolean isDue = isEnd && (start == -1 || start >= 0 && start < end);
                CHECK.due("context(0, " + start + ", " + end + ", 0)", isDue ? 0 : -1, new FactBinder().context(0, start, end, 0));
            }
        }
        for (int day = 0; day < 9999; day += 101) {
            CHECK.due("a duration of one day", 0, new FactBinder().context(0, day, day + 1, 0));
            CHECK.due("a duration of no day", -1, new FactBinder().context(0, day, day, 0));
            CHECK.due("a duration backwards", -1, new FactBinder().context(0, day + 1, day, 0));
        }
    }

    /** "CONTEXTS, at most 12"; "-1, refused, ... or there are 12"; "false if one does not exist" */
    private static void atMost12Contexts() {
        FactBinder x = Check.withNumberConcept();
        FactBinder empty = new FactBinder();
        CHECK.range("no context: sameContext(c, c)", 0, -1, c -> empty.sameContext(c, c));
        CHECK.write(x, "1");
        for (int c = 1; c < 12; c++) {
            CHECK.no("context " + c + " before it is there", x.sameContext(c, c));
            CHECK.due("a fact in it before it is there", -1, x.fact(0, c, 0, EXACT, 0));
            CHECK.due("context " + c, c, x.context(0, -1, c, 0));
        }
        for (int again = 0; again < 3; again++) {
            CHECK.due("a thirteenth", -1, x.context(9, 0, 9999, 9));
            CHECK.due("a thirteenth that is wrong too", -1, x.context(10, 0, 9999, 9));
        }
        CHECK.range("sameContext(c, c)", 0, 11, c -> x.sameContext(c, c));
        CHECK.range("sameContext(11, c)", 11, 11, c -> x.sameContext(11, c));
        CHECK.range("sameContext(c, 0)", 0, 0, c -> x.sameContext(c, 0));
        CHECK.due("a fact in a thirteenth", -1, x.fact(0, 12, 0, EXACT, 0));
        CHECK.due("a fact in context -1", -1, x.fact(0, -1, 0, EXACT, 0));
        CHECK.due("a fact in the twelfth", 0, x.fact(0, 11, 0, EXACT, 0));
        CHECK.problems("the twelfth is as it was", x);
    }

    /** "EQUAL if entity, scene, and the kind of period with its days are" */
    private static void contextsDifferByAnyOfTheirParts() {
        List<int[]> all = new ArrayList<>();
        int[][] periods = {{-1, 0}, {-1, 1}, {-1, 9999}, {0, 1}, {0, 9999}, {1, 9999}, {9998, 9999}};
        int[] ends = {0, 1, 9};
        for (int[] period : periods) {
            for (int entity : ends) {
                for (int scene : ends) {
                    all.add(new int[] {entity, period[0], period[1], scene});
                }
            }
        }
        for (int i = 0; i < all.size(); i++) {
            for (int j = 0; j < all.size(); j++) {
                FactBinder x = new FactBinder();
                int[] a = all.get(i);
                int[] b = all.get(j);
                CHECK.due("a context", 0, x.context(a[0], a[1], a[2], a[3]));
                CHECK.due("another", 1, x.context(b[0], b[1], b[2], b[3]));
                CHECK.due("sameContext of " + i + " and " + j, i == j ? 1 : 0, x.sameContext(0, 1) ? 1 : 0);
            }
        }
    }

    /** "the measures 1 .. 9"; "-1, refused, if a is not 1 .. 9, b or c not 0 .. 9" */
    private static void measuresAre1To9() {
        CHECK.numbered("unit(a, 0, 0)", 1, 9, a -> new FactBinder().unit(a, 0, 0));
        CHECK.numbered("unit(1, b, 0)", 0, 9, b -> new FactBinder().unit(1, b, 0));
        CHECK.numbered("unit(9, b, 0)", 0, 9, b -> new FactBinder().unit(9, b, 0));
        CHECK.numbered("unit(1, 1, c)", 2, 9, c -> c == 0 ? -1 : new FactBinder().unit(1, 1, c));
        CHECK.numbered("unit(9, 0, c)", 0, 8, c -> new FactBinder().unit(9, 0, c));
    }

    /** "c is a or b (other than 0)" */
    private static void noMeasureIsAboveAndBelow() {
        for (int a = -1; a <= 10; a++) {
            for (int b = -1; b <= 10; b++) {
                for (int c = -1; c <= 10; c++) {
                    String call = "unit(" + a + ", " + b + ", " + c + ")";
                    CHECK.due(call, isUnit(a, b, c) ? 0 : -1, new FactBinder().unit(a, b, c));
                }
            }
        }
    }

    private static boolean isUnit(int a, int b, int c) {
        boolean areMeasures = a >= 1 && a <= 9 && b >= 0 && b <= 9 && c >= 0 && c <= 9;
        boolean isBelowOnly = c == 0 || c != a && c != b;
        return areMeasures && isBelowOnly;
    }

    private static List<int[]> allUnits() {
        List<int[]> all = new ArrayList<>();
        for (int a = 1; a <= 9; a++) {
            for (int b = 0; b <= 9; b++) {
                for (int c = 0; c <= 9; c++) {
                    if (isUnit(a, b, c)) {
                        all.add(new int[] {a, b, c});
                    }
                }
            }
        }
        return all;
    }

    /** "UNITS, at most 8"; "-1, refused, ... or there are 8"; "unit = -1: none" */
    private static void atMost8Units() {
        FactBinder x = new FactBinder();
        x.enter(0);
        x.concept(0, 2, 0, 0);
        x.context(0, -1, 0, 0);
        CHECK.range("no unit: sameUnit(u, u)", 0, -1, u -> x.sameUnit(u, u));
        CHECK.write(x, "1");
        for (int u = 0; u < 8; u++) {
            CHECK.no("unit " + u + " before it is there", x.sameUnit(u, u));
            CHECK.due("a fact with it before it is there", -1, x.fact(0, 0, u, EXACT, 0));
            CHECK.due("unit " + u, u, x.unit(u + 1, 0, 0));
        }
        for (int again = 0; again < 3; again++) {
            CHECK.due("a ninth", -1, x.unit(9, 9, 1));
            CHECK.due("a ninth that is wrong too", -1, x.unit(0, 9, 1));
        }
        CHECK.range("sameUnit(u, u)", 0, 7, u -> x.sameUnit(u, u));
        CHECK.range("sameUnit(7, u)", 7, 7, u -> x.sameUnit(7, u));
        CHECK.range("sameUnit(u, 0)", 0, 0, u -> x.sameUnit(u, 0));
        CHECK.due("a fact with a ninth", -1, x.fact(0, 0, 8, EXACT, 0));
        CHECK.due("a fact with unit -2", -1, x.fact(0, 0, -2, EXACT, 0));
        CHECK.due("a fact with the eighth", 0, x.fact(0, 0, 7, EXACT, 0));
        CHECK.due("a fact with none", 1, CHECK.fact(x, "1", 0, 0, -1, EXACT, 0));
        CHECK.problems("the eighth is as it was, and none is none", x, 20100);
    }

    /** "EQUAL if they have the same measures above (in any order, as often) and the same below" */
    private static void unitsAreEqualInAnyOrderAndAsOften() {
        List<int[]> all = allUnits();
        int wrong = 0;
        for (int[] a : all) {
            FactBinder x = null;
            int next = 8;
            for (int[] b : all) {
                if (next == 8) {
                    x = new FactBinder();
                    x.unit(a[0], a[1], a[2]);
                    next = 1;
                }
                x.unit(b[0], b[1], b[2]);
                boolean sameAbove = Math.min(a[0], a[1]) == Math.min(b[0], b[1])
                        && Math.max(a[0], a[1]) == Math.max(b[0], b[1]);
                boolean isDue = sameAbove && a[2] == b[2];
                wrong += x.sameUnit(0, next) == isDue && x.sameUnit(next, 0) == isDue ? 0 : 1;
                next++;
            }
        }
        CHECK.due("pairs of units that are not equal as due", 0, wrong);
    }

    /** "6 and more are currencies"; "it is 2 and the unit is not just one measure that is a currency, over none" */
    private static void currenciesAre6AndMore() {
        for (int type = 1; type <= 2; type++) {
            for (int[] u : allUnits()) {
                FactBinder x = new FactBinder();
                x.enter(0);
                x.concept(0, type, 0, 0);
                x.context(0, -1, 0, 0);
                x.unit(u[0], u[1], u[2]);
                x.write('1');
                x.fact(0, 0, 0, EXACT, 0);
                boolean isDue = type == 2 && (u[0] < 6 || u[1] != 0 || u[2] != 0);
                String state = "type " + type + " with unit " + u[0] + ", " + u[1] + " over " + u[2];
                CHECK.due(state + ": problem(0)", isDue ? 20000 : -1, x.problem(0));
            }
        }
    }
}
