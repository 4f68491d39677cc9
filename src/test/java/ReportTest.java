/** Promises 7, 8, 13 and 14: context, unit, sameContext and sameUnit. */
public final class ReportTest {
    private static final int MIN = Integer.MIN_VALUE;
    private static final int MAX = Integer.MAX_VALUE;
    private static final Check CHECK = new Check("ReportTest");

    public static void main(String[] args) {
        contextsAreNumbered();
        wrongContextsAreRefused();
        equalContexts();
        unitsAreNumbered();
        wrongUnitsAreRefused();
        equalUnits();
        CHECK.finish();
    }

    private static void contextsAreNumbered() {
        FactBinder x = new FactBinder();
        int[][] edges = {
            {0, -1, 0, 0}, {9, -1, 9999, 9}, {0, 0, 1, 0}, {9, 0, 9999, 9}, {5, 9998, 9999, 5}
        };
        int next = 0;
        for (int[] e : edges) {
            CHECK.due("a context of edges", next++, x.context(e[0], e[1], e[2], e[3]));
        }
        while (next < 12) {
            CHECK.due("a context", next++, x.context(1, 2, 3, 4));
        }
        CHECK.due("a thirteenth context", -1, x.context(1, 2, 3, 4));
        CHECK.yes("context 11 exists", x.sameContext(11, 10));
        CHECK.no("context 12 does not", x.sameContext(12, 12));
    }

    private static void wrongContextsAreRefused() {
        FactBinder x = new FactBinder();
        int[][] wrong = {
            {-1, -1, 0, 0}, {10, -1, 0, 0}, {0, -1, 0, -1}, {0, -1, 0, 10}, {0, -1, -1, 0},
            {0, -1, 10000, 0}, {0, -2, 5, 0}, {0, 5, 5, 0}, {0, 6, 5, 0}, {0, 0, 10000, 0},
            {0, 9999, 10000, 0}, {0, 10000, 10001, 0}, {0, 0, 0, 0}, {0, 9999, 9999, 0},
            {0, MIN, 5, 0}, {0, -1, MIN, 0}, {0, -1, MAX, 0}, {0, 0, MAX, 0}, {MIN, -1, 0, 0},
            {0, -1, 0, MAX}, {0, 3, -1, 0}, {0, -2, -1, 0}
        };
        for (int[] w : wrong) {
            CHECK.due("a wrong context", -1, x.context(w[0], w[1], w[2], w[3]));
        }
        CHECK.due("none was made", 0, x.context(0, -1, 0, 0));
    }

    private static void equalContexts() {
        FactBinder x = new FactBinder();
        x.context(1, 10, 20, 2);
        int[][] others = {{2, 10, 20, 2}, {1, 11, 20, 2}, {1, 10, 21, 2}, {1, 10, 20, 3}, {1, -1, 20, 2}};
        for (int[] o : others) {
            int other = x.context(o[0], o[1], o[2], o[3]);
            CHECK.no("sameContext(0, " + other + ")", x.sameContext(0, other));
            CHECK.no("sameContext(" + other + ", 0)", x.sameContext(other, 0));
            CHECK.yes("a context equals itself", x.sameContext(other, other));
        }
        int copy = x.context(1, 10, 20, 2);
        CHECK.yes("an equal duration", x.sameContext(0, copy));
        CHECK.yes("an equal instant", x.sameContext(5, x.context(1, -1, 20, 2)));
        CHECK.no("another instant", x.sameContext(5, x.context(1, -1, 19, 2)));
        CHECK.no("an instant at the start of a duration", x.sameContext(0, x.context(1, -1, 10, 2)));
        int[] missing = {-1, 10, 11, 12, MIN, MAX};
        for (int m : missing) {
            CHECK.no("sameContext(0, " + m + ")", x.sameContext(0, m));
            CHECK.no("sameContext(" + m + ", 0)", x.sameContext(m, 0));
            CHECK.no("sameContext(" + m + ", " + m + ")", x.sameContext(m, m));
        }
    }

    private static void unitsAreNumbered() {
        FactBinder x = new FactBinder();
        int[][] edges = {{1, 0, 0}, {9, 9, 0}, {9, 0, 1}, {1, 1, 9}, {1, 9, 2}, {6, 0, 0}};
        int next = 0;
        for (int[] e : edges) {
            CHECK.due("a unit of edges", next++, x.unit(e[0], e[1], e[2]));
        }
        while (next < 8) {
            CHECK.due("a unit", next++, x.unit(3, 0, 0));
        }
        CHECK.due("a ninth unit", -1, x.unit(3, 0, 0));
        CHECK.yes("unit 7 exists", x.sameUnit(7, 6));
        CHECK.no("unit 8 does not", x.sameUnit(8, 8));
    }

    private static void wrongUnitsAreRefused() {
        FactBinder x = new FactBinder();
        int[][] wrong = {
            {0, 0, 0}, {-1, 0, 0}, {10, 0, 0}, {1, -1, 0}, {1, 10, 0}, {1, 0, -1}, {1, 0, 10},
            {1, 0, 1}, {1, 2, 2}, {1, 2, 1}, {3, 3, 3}, {0, 1, 0}, {0, 0, 1}, {MIN, 0, 0},
            {MAX, 0, 0}, {1, MIN, 0}, {1, MAX, 0}, {1, 0, MIN}, {1, 0, MAX}
        };
        for (int[] w : wrong) {
            CHECK.due("a wrong unit", -1, x.unit(w[0], w[1], w[2]));
        }
        CHECK.due("none was made", 0, x.unit(1, 2, 3));
    }

    private static void equalUnits() {
        FactBinder x = new FactBinder();
        x.unit(2, 3, 4);
        CHECK.yes("in another order", x.sameUnit(0, x.unit(3, 2, 4)));
        CHECK.no("another one below", x.sameUnit(0, x.unit(2, 3, 5)));
        CHECK.no("none below", x.sameUnit(0, x.unit(2, 3, 0)));
        CHECK.no("not as often", x.sameUnit(0, x.unit(2, 2, 4)));
        CHECK.no("not as often", x.sameUnit(0, x.unit(3, 3, 4)));
        CHECK.no("one measure alone", x.sameUnit(0, x.unit(2, 0, 4)));
        CHECK.no("the other measure alone", x.sameUnit(0, x.unit(3, 0, 4)));
        CHECK.yes("a unit equals itself", x.sameUnit(6, 6));
        CHECK.no("twice a measure is not once", x.sameUnit(4, 6));

        FactBinder y = new FactBinder();
        y.unit(7, 0, 0);
        CHECK.yes("one measure", y.sameUnit(0, y.unit(7, 0, 0)));
        CHECK.no("another measure", y.sameUnit(0, y.unit(8, 0, 0)));
        CHECK.no("the measure twice", y.sameUnit(0, y.unit(7, 7, 0)));
        int[] missing = {-1, 4, 8, MIN, MAX};
        for (int m : missing) {
            CHECK.no("sameUnit(0, " + m + ")", y.sameUnit(0, m));
            CHECK.no("sameUnit(" + m + ", 0)", y.sameUnit(m, 0));
            CHECK.no("sameUnit(" + m + ", " + m + ")", y.sameUnit(m, m));
        }
    }
}
