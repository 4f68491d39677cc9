/** Promises 18, 19 and 20: sum, problems and problem. */
public final class ProblemTest {
    private static final int MIN = Integer.MIN_VALUE;
    private static final int MAX = Integer.MAX_VALUE;
    private static final int DECIMALS = 1;
    private static final int PRECISION = 2;
    private static final int EXACT = 3;
    private static final Check CHECK = new Check("ProblemTest");

    public static void main(String[] args) {
        problemNumbers();
        unknownComesFirst();
        unitFaults();
        periodFaults();
        accuracyFaults();
        twins();
        looseArcs();
        signs();
        cycles();
        cyclesByRoleAndSort();
        longCycle();
        sumOfParts();
        sumNeedsUsableFacts();
        sumLeavesTwinsOut();
        partsStandInTheSameContextAndUnit();
        sumByRole();
        oneFactIsPartOfSeveralArcs();
        totalsAgreeAsAccurately();
        precisionZeroNeverAgrees();
        greatestSum();
        mostProblems();
        mostSignsAndTotals();
        CHECK.finish();
    }

    /** Money concepts 0, 1 and 2 of document 0, a duration, an instant, the units 6, 7, 1. */
    private static FactBinder withMoney() {
        FactBinder x = new FactBinder();
        x.enter(0);
        for (int c = 0; c < 3; c++) {
            x.concept(0, 2, 0, 1);
        }
        x.context(1, 0, 365, 0);
        x.context(1, -1, 365, 0);
        x.unit(6, 0, 0);
        x.unit(7, 0, 0);
        x.unit(1, 0, 0);
        return x;
    }

    private static void problemNumbers() {
        FactBinder x = withMoney();
        CHECK.problems("no facts", x);
        CHECK.fact(x, "1", 0, 0, -1, EXACT, 0);
        int[] missing = {-1, 1, 2, 500, MIN, MAX};
        for (int m : missing) {
            CHECK.due("problem(" + m + ")", -1, x.problem(m));
        }
        CHECK.problems("one fact", x, 20000);
    }

    private static void unknownComesFirst() {
        FactBinder x = withMoney();
        x.concept(4, 0, 0, 1);
        CHECK.fact(x, "", 3, 0, -1, 0, 0);
        x.fact(3, 1, 0, EXACT, 0);
        CHECK.problems("an unknown concept has no other fault", x, 10000, 10100);
        x.refer(0, 4);
        CHECK.problems("a known one has", x, 20100);
    }

    private static void unitFaults() {
        FactBinder x = withMoney();
        x.concept(0, 0, 0, 1);
        x.concept(0, 1, 0, 1);
        x.unit(5, 0, 0);
        x.unit(9, 0, 0);
        x.unit(6, 6, 0);
        x.unit(6, 0, 1);
        x.unit(1, 6, 0);
        x.fact(3, 0, -1, 0, 0);
        x.fact(3, 0, 0, 0, 0);
        CHECK.fact(x, "1", 4, 0, -1, EXACT, 0);
        CHECK.fact(x, "1", 4, 0, 0, EXACT, 0);
        CHECK.fact(x, "1", 4, 0, 2, EXACT, 0);
        CHECK.fact(x, "1", 4, 0, 6, EXACT, 0);
        CHECK.problems("text wants none, a number any", x, 20100, 20200);
        CHECK.fact(x, "1", 0, 0, -1, EXACT, 0);
        for (int u = 0; u < 8; u++) {
            CHECK.fact(x, "1", 0, 0, u, EXACT, 0);
        }
        CHECK.problems("money wants one currency", x, 20100, 20200, 20600, 20900, 21000, 21200, 21300, 21400);
    }

    private static void periodFaults() {
        FactBinder x = withMoney();
        x.concept(0, 1, 0, 0);
        x.concept(0, 0, 0, 0);
        CHECK.fact(x, "1", 0, 0, 0, EXACT, 0);
        CHECK.fact(x, "1", 0, 1, 0, EXACT, 0);
        CHECK.fact(x, "1", 3, 0, 0, EXACT, 0);
        CHECK.fact(x, "1", 3, 1, 0, EXACT, 0);
        x.fact(4, 0, -1, EXACT, 0);
        x.fact(4, 1, -1, 0, 0);
        CHECK.problems("another kind of period", x, 30100, 30200, 30400);
        CHECK.fact(x, "1", 0, 1, -1, 0, 0);
        CHECK.problems("the unit comes before the period", x, 20600, 30100, 30200, 30400);
    }

    private static void accuracyFaults() {
        FactBinder x = withMoney();
        x.concept(0, 0, 0, 1);
        x.concept(0, 1, 0, 1);
        x.context(2, 0, 365, 0);
        x.context(3, 0, 365, 0);
        x.context(4, 0, 365, 0);
        for (int mode = 0; mode <= 3; mode++) {
            x.fact(3, mode == 0 ? 0 : mode + 1, -1, mode, 0);
            CHECK.fact(x, "1", 4, mode == 0 ? 0 : mode + 1, 0, mode, 0);
        }
        CHECK.problems("text wants no accuracy, a number one", x, 40100, 40200, 40400, 40600);
        CHECK.fact(x, "1", 0, 1, 0, 0, 0);
        CHECK.problems("the period comes before the accuracy", x, 30800, 40100, 40200, 40400, 40600);
    }

    private static void twins() {
        FactBinder x = withMoney();
        x.context(1, 0, 365, 0);
        x.unit(6, 0, 0);
        CHECK.fact(x, "1", 0, 0, 0, EXACT, 0);
        CHECK.fact(x, "2", 1, 0, 0, EXACT, 0);
        CHECK.fact(x, "3", 0, 0, 1, EXACT, 0);
        CHECK.problems("another concept or unit is no twin", x);
        CHECK.fact(x, "4", 0, 2, 3, EXACT, 0);
        CHECK.problems("equal context and unit", x, 50300);
        CHECK.fact(x, "5", 0, 2, 0, DECIMALS, 2);
        CHECK.fact(x, "6", 0, 2, 1, DECIMALS, 2);
        CHECK.problems("the lowest twin is told", x, 50300, 50400, 50502);
        CHECK.fact(x, "7", 0, 0, -1, EXACT, 0);
        CHECK.problems("no unit is not a unit", x, 20600, 50300, 50400, 50502);
        CHECK.fact(x, "8", 0, 2, -1, EXACT, 0);
        CHECK.problems("both have no unit", x, 20600, 20700, 50300, 50400, 50502, 50706);

        FactBinder y = new FactBinder();
        y.concept(7, 0, 0, 0);
        y.context(0, -1, 1, 0);
        y.context(0, -1, 2, 0);
        y.fact(0, 0, -1, 0, 0);
        y.fact(0, 1, -1, 0, 0);
        y.fact(0, 0, -1, 0, 0);
        CHECK.problems("unknown text facts are twins too", y, 10000, 10100, 10200, 50200);
    }

    private static void looseArcs() {
        FactBinder x = new FactBinder();
        x.concept(1, 1, 0, 0);
        x.concept(2, 1, 0, 0);
        x.arc(0, 0, 0, 1, 10);
        x.setting(1, 9, true);
        x.arc(0, 1, 1, 0, 10);
        CHECK.problems("no document is discovered", x);
        x.enter(0);
        CHECK.problems("no concept is known", x, 60000, 60100);
        x.enter(1);
        CHECK.problems("one concept is known", x, 60000, 60100);
        x.enter(2);
        CHECK.problems("all count", x);

        FactBinder y = new FactBinder();
        y.concept(1, 1, 0, 0);
        y.concept(2, 1, 0, 0);
        y.arc(0, 0, 0, 1, 10);
        y.enter(1);
        y.enter(2);
        CHECK.problems("an arc of an undiscovered document is not loose", y);
    }

    private static void signs() {
        FactBinder x = new FactBinder();
        x.enter(0);
        for (int balance = 0; balance <= 2; balance++) {
            x.concept(0, 2, balance, 0);
        }
        for (int from = 0; from <= 2; from++) {
            for (int to = 0; to <= 2; to++) {
                x.arc(0, 0, from, to, 1);
                x.arc(0, 0, from, to, -1);
            }
        }
        CHECK.problems("signs", x, 70900, 71000, 71400, 71700);
        x.arc(0, 1, 1, 2, 10);
        x.arc(0, 1, 1, 1, -10);
        CHECK.problems("a tree arc has no sign", x, 70900, 71000, 71400, 71700, 80001);
        x.setting(0, 1, true);
        x.arc(0, 0, 1, 1, -1);
        CHECK.problems("nor has one that is not left", x, 71000, 71400, 71700, 80001);

        FactBinder y = new FactBinder();
        y.enter(0);
        y.concept(0, 2, 2, 0);
        y.arc(0, 0, 0, 0, -90);
        CHECK.problems("the first arc", y, 70000);
    }

    private static void cycles() {
        FactBinder x = withMoney();
        x.concept(0, 1, 0, 0);
        x.arc(0, 1, 0, 1, 1);
        x.arc(0, 1, 1, 2, 2);
        x.arc(0, 1, 0, 2, 2);
        CHECK.problems("two ways are no cycle", x);
        x.arc(0, 1, 2, 1, 5);
        CHECK.problems("a cycle that another leads into", x, 80001, 80002);
        x.arc(0, 1, 2, 3, 5);
        CHECK.problems("and that leads to another", x, 80001, 80002);
        x.setting(0, 3, true);
        x.arc(0, 1, 1, 2, 2);
        CHECK.problems("a prohibited arc breaks it", x);
        x.setting(0, 0, false);
        x.arc(0, 1, 1, 2, 3);
        CHECK.problems("one with another n closes it", x, 80001, 80002);
    }

    private static void cyclesByRoleAndSort() {
        FactBinder x = withMoney();
        x.arc(0, 1, 0, 1, 1);
        x.setting(1, 0, false);
        x.arc(0, 1, 1, 0, 1);
        CHECK.problems("not across roles", x);
        x.arc(0, 0, 0, 1, 1);
        CHECK.problems("not across sorts", x);
        x.setting(2, 0, false);
        x.arc(0, 1, 2, 2, 1);
        CHECK.problems("an arc from a concept to itself", x, 80202);
        x.arc(0, 0, 1, 1, 1);
        CHECK.problems("but no SUM arc", x, 80202);
        x.arc(0, 1, 0, 1, 1);
        x.arc(0, 1, 1, 0, 1);
        x.setting(1, 0, false);
        x.arc(0, 1, 0, 1, 1);
        CHECK.problems("by role, then concept", x, 80100, 80101, 80200, 80201, 80202);
    }

    private static void longCycle() {
        int[] order = {0, 9, 3, 12, 1, 15, 4, 7, 11, 2, 14, 8, 5, 13, 6, 10};
        FactBinder x = new FactBinder();
        x.enter(0);
        for (int c = 0; c < 16; c++) {
            x.concept(0, 1, 0, 0);
        }
        for (int c = 0; c < 15; c++) {
            x.arc(0, 1, order[c], order[c + 1], 1);
        }
        CHECK.problems("fifteen arcs", x);
        x.arc(0, 1, order[15], order[0], 1);
        int[] want = new int[16];
        for (int c = 0; c < 16; c++) {
            want[c] = 80000 + c;
        }
        CHECK.problems("sixteen arcs", x, want);
    }

    private static void sumOfParts() {
        FactBinder x = withMoney();
        x.arc(0, 0, 0, 1, 10);
        x.arc(0, 0, 0, 2, -5);
        CHECK.fact(x, "10", 0, 0, 0, DECIMALS, 0);
        CHECK.due("without parts it is not bound", 0, x.sum(0, 0));
        CHECK.problems("and has no total", x);
        CHECK.fact(x, "12.4", 1, 0, 0, DECIMALS, 0);
        CHECK.due("one part, rounded", 120000000L, x.sum(0, 0));
        CHECK.problems("12 is not 10", x, 90000);
        CHECK.fact(x, "4", 2, 0, 0, DECIMALS, 0);
        CHECK.due("two parts, weighted", 100000000L, x.sum(0, 0));
        CHECK.problems("12 less half of 4 is 10", x);
        CHECK.due("a part is not bound", 0, x.sum(0, 1));
        int[] wrong = {-1, 3, 20, MIN, MAX};
        for (int w : wrong) {
            CHECK.due("sum(0, " + w + ")", 0, x.sum(0, w));
            CHECK.due("sum(" + w + ", 0)", 0, x.sum(w, 0));
        }
        CHECK.due("sum(0, 0) still", 100000000L, x.sum(0, 0));
        x.setting(0, 1, true);
        x.arc(0, 0, 0, 2, -5);
        CHECK.due("a prohibited arc does not add", 120000000L, x.sum(0, 0));
        CHECK.problems("12 is not 10 again", x, 90000);
        x.setting(0, 1, false);
        x.arc(0, 1, 0, 2, -10);
        CHECK.due("nor does a tree arc", 120000000L, x.sum(0, 0));
    }

    private static void sumNeedsUsableFacts() {
        FactBinder x = withMoney();
        x.arc(0, 0, 0, 1, 10);
        CHECK.fact(x, "1", 0, 0, 0, 0, 0);
        CHECK.fact(x, "2", 1, 0, 0, EXACT, 0);
        CHECK.due("a total without accuracy", 0, x.sum(0, 0));
        CHECK.problems("is not bound", x, 40000);

        FactBinder y = withMoney();
        y.arc(0, 0, 0, 1, 10);
        CHECK.fact(y, "1", 0, 0, 0, EXACT, 0);
        CHECK.fact(y, "2", 1, 0, 0, 0, 0);
        CHECK.due("a part without accuracy", 0, y.sum(0, 0));
        CHECK.problems("is none", y, 40100);

        FactBinder z = withMoney();
        z.concept(0, 0, 0, 1);
        z.arc(0, 0, 3, 3, 10);
        z.arc(0, 0, 0, 3, 10);
        z.fact(3, 0, -1, 0, 0);
        CHECK.fact(z, "1", 0, 0, 0, EXACT, 0);
        CHECK.due("a text has no sum", 0, z.sum(0, 0));
        CHECK.due("and is no part", 0, z.sum(0, 1));
        CHECK.problems("so it is not bound", z);
    }

    private static void sumLeavesTwinsOut() {
        FactBinder x = withMoney();
        x.arc(0, 0, 0, 1, 10);
        x.arc(0, 0, 0, 2, 10);
        CHECK.fact(x, "5", 0, 0, 0, EXACT, 0);
        CHECK.fact(x, "2", 1, 0, 0, EXACT, 0);
        CHECK.fact(x, "3", 2, 0, 0, EXACT, 0);
        CHECK.problems("2 and 3 are 5", x);
        CHECK.fact(x, "2", 1, 0, 0, 0, 0);
        CHECK.due("a part with an unusable twin", 30000000L, x.sum(0, 0));
        CHECK.problems("is left out", x, 40300, 50301, 90000);
        CHECK.fact(x, "5", 0, 0, 0, EXACT, 0);
        CHECK.due("a total with a twin", 0, x.sum(0, 0));
        CHECK.due("is not bound", 0, x.sum(0, 4));
        CHECK.problems("whatever its number", x, 40300, 50301, 50400);
    }

    private static void partsStandInTheSameContextAndUnit() {
        FactBinder x = withMoney();
        x.context(1, 0, 365, 0);
        x.context(2, 0, 365, 0);
        x.unit(6, 0, 0);
        x.arc(0, 0, 0, 1, 10);
        CHECK.fact(x, "5", 0, 0, 0, EXACT, 0);
        CHECK.fact(x, "1", 1, 3, 0, EXACT, 0);
        CHECK.due("another context", 0, x.sum(0, 0));
        CHECK.fact(x, "2", 1, 0, 1, EXACT, 0);
        CHECK.due("another unit", 0, x.sum(0, 0));
        CHECK.problems("no part yet", x);
        CHECK.fact(x, "5", 1, 2, 3, EXACT, 0);
        CHECK.due("equal ones of other numbers", 50000000L, x.sum(0, 0));
        CHECK.problems("agrees", x);
    }

    private static void sumByRole() {
        FactBinder x = withMoney();
        x.setting(2, 0, false);
        x.arc(0, 0, 0, 1, 10);
        x.setting(1, 0, false);
        x.arc(0, 0, 1, 0, 20);
        CHECK.fact(x, "3", 0, 0, 0, EXACT, 0);
        CHECK.fact(x, "4", 1, 0, 0, EXACT, 0);
        CHECK.due("sum(0, 0)", 0, x.sum(0, 0));
        CHECK.due("sum(1, 0)", 0, x.sum(1, 0));
        CHECK.due("sum(2, 0)", 40000000L, x.sum(2, 0));
        CHECK.due("sum(1, 1)", 60000000L, x.sum(1, 1));
        CHECK.due("sum(2, 1)", 0, x.sum(2, 1));
        CHECK.problems("by role, then fact", x, 90101, 90200);
    }

    private static void oneFactIsPartOfSeveralArcs() {
        FactBinder x = withMoney();
        x.arc(0, 0, 0, 1, 10);
        x.arc(0, 0, 0, 1, 20);
        x.arc(0, 0, 0, 1, 20);
        x.arc(0, 0, 0, 0, -10);
        CHECK.fact(x, "6", 0, 0, 0, EXACT, 0);
        CHECK.due("itself alone", -60000000L, x.sum(0, 0));
        CHECK.fact(x, "4", 1, 0, 0, EXACT, 0);
        CHECK.due("a part for each arc that is left", 60000000L, x.sum(0, 0));
        CHECK.problems("agrees", x);
    }

    private static void dueAgreement(boolean agrees, String total, int places, String part, int n) {
        FactBinder x = withMoney();
        x.arc(0, 0, 0, 1, n);
        CHECK.fact(x, total, 0, 0, 0, DECIMALS, places);
        CHECK.fact(x, part, 1, 0, 0, EXACT, 0);
        String state = total + " to " + places + " against " + n + " tenths of " + part;
        if (agrees) {
            CHECK.problems(state, x);
        } else {
            CHECK.problems(state, x, 90000);
        }
    }

    private static void totalsAgreeAsAccurately() {
        dueAgreement(true, "2", 0, "2.5", 10);
        dueAgreement(false, "3", 0, "2.5", 10);
        dueAgreement(true, "4", 0, "3.5", 10);
        dueAgreement(false, "2", 0, "2.500001", 10);
        dueAgreement(true, "3", 0, "2.500001", 10);
        dueAgreement(true, "-2", 0, "2.5", -10);
        dueAgreement(true, "-4", 0, "-3.5", 10);
        dueAgreement(true, "20", -1, "25", 10);
        dueAgreement(true, "24.9", -1, "25", 10);
        dueAgreement(false, "25.000001", -1, "25", 10);
        dueAgreement(true, "0", -9, "500000000", 10);
        dueAgreement(false, "0", -9, "500000000", 11);
        dueAgreement(true, "999999999.999999", -9, "500000000", 11);
        dueAgreement(true, "0.000002", 6, "0.000005", 5);
        dueAgreement(false, "0.000003", 6, "0.000005", 5);
        dueAgreement(true, "0", 6, "0.000005", 1);
        dueAgreement(true, "0.000001", 6, "0.000006", 1);
        dueAgreement(true, "0.7", 6, "7", 1);
        dueAgreement(false, "0.7", 6, "7", -1);
        dueAgreement(true, "63", 6, "7", 90);
    }

    private static void precisionZeroNeverAgrees() {
        FactBinder x = withMoney();
        x.arc(0, 0, 0, 1, 10);
        CHECK.fact(x, "0", 0, 0, 0, EXACT, 0);
        CHECK.fact(x, "0", 1, 0, 0, PRECISION, 0);
        CHECK.due("the sum is 0", 0, x.sum(0, 0));
        CHECK.problems("a part of PRECISION 0", x, 90000);

        FactBinder y = withMoney();
        y.arc(0, 0, 0, 1, 10);
        CHECK.fact(y, "0", 0, 0, 0, PRECISION, 0);
        CHECK.fact(y, "0", 1, 0, 0, EXACT, 0);
        CHECK.problems("a total of PRECISION 0", y, 90000);

        FactBinder z = withMoney();
        z.arc(0, 0, 0, 1, 10);
        z.arc(0, 0, 0, 2, 10);
        CHECK.fact(z, "0", 0, 0, 0, PRECISION, 1);
        CHECK.fact(z, "0", 1, 0, 0, DECIMALS, 0);
        CHECK.problems("PRECISION 1 and DECIMALS 0 may agree", z);
        CHECK.fact(z, "0", 2, 0, 0, PRECISION, 0);
        CHECK.problems("the last part is of PRECISION 0", z, 90000);

        FactBinder w = withMoney();
        w.arc(0, 0, 0, 1, 10);
        w.arc(0, 0, 0, 2, 10);
        CHECK.fact(w, "0", 0, 0, 0, EXACT, 0);
        CHECK.fact(w, "0", 1, 0, 0, PRECISION, 0);
        CHECK.fact(w, "0", 2, 0, 0, EXACT, 0);
        CHECK.fact(w, "0", 2, 0, 1, PRECISION, 0);
        CHECK.problems("the first part is of PRECISION 0", w, 90000);
        CHECK.fact(w, "1", 0, 0, 1, EXACT, 0);
        CHECK.fact(w, "1", 1, 0, 1, EXACT, 0);
        CHECK.problems("the last part of another total is", w, 90000, 90004);

        FactBinder v = withMoney();
        v.arc(0, 0, 0, 1, 10);
        CHECK.fact(v, "0", 0, 0, 0, EXACT, 0);
        CHECK.fact(v, "0", 1, 0, 0, PRECISION, 0);
        CHECK.fact(v, "1", 0, 0, 1, EXACT, 0);
        CHECK.fact(v, "1", 1, 0, 1, EXACT, 0);
        CHECK.problems("the total after it agrees", v, 90000);
    }

    private static void greatestSum() {
        FactBinder x = withMoney();
        for (int a = 0; a < 32; a++) {
            x.arc(0, 0, 0, 1, 90 - a);
        }
        CHECK.fact(x, "1", 0, 0, 0, DECIMALS, -9);
        CHECK.fact(x, "-999999999.999999", 1, 0, 0, DECIMALS, -9);
        CHECK.due("thirty-two arcs", -2384000000000000000L, x.sum(0, 0));
        CHECK.problems("do not agree", x, 90000);
    }

    /** Every problem that can stand there at once has room. */
    private static void mostProblems() {
        FactBinder x = new FactBinder();
        x.enter(0);
        for (int c = 0; c < 16; c++) {
            x.concept(0, 1, 0, 0);
        }
        for (int role = 0; role < 2; role++) {
            x.setting(role, 0, false);
            for (int c = 0; c < 16; c++) {
                x.arc(0, 1, c, (c + 1) % 16, 1);
            }
        }
        x.context(0, -1, 0, 0);
        for (int f = 0; f < 20; f++) {
            CHECK.fact(x, "1", 0, 0, -1, EXACT, 0);
        }
        CHECK.due("20 units, 19 twins, 32 cycles", 71, x.problems());
        CHECK.due("problem(0)", 20000, x.problem(0));
        CHECK.due("problem(19)", 21900, x.problem(19));
        CHECK.due("problem(20)", 50100, x.problem(20));
        CHECK.due("problem(38)", 51900, x.problem(38));
        CHECK.due("problem(39)", 80000, x.problem(39));
        CHECK.due("problem(70)", 80115, x.problem(70));
        CHECK.due("problem(71)", -1, x.problem(71));
    }

    private static void mostSignsAndTotals() {
        FactBinder x = new FactBinder();
        x.enter(0);
        x.concept(0, 2, 1, 0);
        for (int a = 0; a < 32; a++) {
            x.setting(a % 3, 0, false);
            x.arc(0, 0, 0, 0, -1 - a);
        }
        x.unit(6, 0, 0);
        x.unit(9, 0, 0);
        for (int day = 0; day < 10; day++) {
            x.context(0, -1, day, 0);
            CHECK.fact(x, "1", 0, day, 0, EXACT, 0);
            CHECK.fact(x, "1", 0, day, 1, EXACT, 0);
        }
        int[] want = new int[92];
        for (int k = 0; k < 32; k++) {
            want[k] = 70000 + 100 * k;
        }
        for (int k = 32; k < 92; k++) {
            want[k] = 90000 + 100 * ((k - 32) / 20) + (k - 32) % 20;
        }
        CHECK.problems("32 signs, 60 totals", x, want);
    }
}
