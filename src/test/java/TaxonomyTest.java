/** Promises 4, 5, 6 and 12: concept, setting, arc and left. */
public final class TaxonomyTest {
    private static final Check CHECK = new Check("TaxonomyTest");

    public static void main(String[] args) {
        conceptsAreNumbered();
        wrongConceptsAreRefused();
        settingAnswers();
        refusedSettingChangesNothing();
        arcsAreNumbered();
        wrongArcsAreRefused();
        onlyCountingArcsAreLeft();
        alikeArcs();
        highestPriorityMatters();
        prohibitingAtTheTop();
        arcsThatDoNotCountDoNotMatter();
        CHECK.finish();
    }

    private static void conceptsAreNumbered() {
        FactBinder x = new FactBinder();
        int next = 0;
        for (int balance = 0; balance <= 2; balance++) {
            for (int period = 0; period <= 1; period++) {
                CHECK.due("money concept", next++, x.concept(7, 2, balance, period));
            }
        }
        for (int type = 0; type <= 1; type++) {
            for (int period = 0; period <= 1; period++) {
                CHECK.due("concept of type " + type, next++, x.concept(0, type, 0, period));
            }
        }
        CHECK.due("refused in between", -1, x.concept(0, 3, 0, 0));
        while (next < 16) {
            CHECK.due("concept", next++, x.concept(3, 1, 0, 0));
        }
        CHECK.due("a seventeenth concept", -1, x.concept(3, 1, 0, 0));
        CHECK.due("concept 15 exists", 0, x.arc(0, 0, 15, 15, 1));
        CHECK.due("concept 16 does not", -1, x.arc(0, 0, 16, 15, 1));
    }

    private static void wrongConceptsAreRefused() {
        FactBinder x = new FactBinder();
        int[][] wrong = {
            {-1, 1, 0, 0}, {8, 1, 0, 0}, {Integer.MIN_VALUE, 1, 0, 0}, {Integer.MAX_VALUE, 1, 0, 0},
            {0, -1, 0, 0}, {0, 3, 0, 0}, {0, 2, -1, 0}, {0, 2, 3, 0}, {0, 0, 1, 0}, {0, 0, 2, 0},
            {0, 1, 1, 0}, {0, 1, 2, 0}, {0, 0, -1, 0}, {0, 1, 0, -1}, {0, 1, 0, 2},
            {0, Integer.MAX_VALUE, 0, 0}, {0, 2, Integer.MIN_VALUE, 0}, {0, 2, 0, Integer.MAX_VALUE}
        };
        for (int[] w : wrong) {
            CHECK.due("a wrong concept", -1, x.concept(w[0], w[1], w[2], w[3]));
        }
        CHECK.due("none was made", 0, x.concept(0, 0, 0, 0));
    }

    private static void settingAnswers() {
        FactBinder x = new FactBinder();
        for (int role = 0; role <= 2; role++) {
            for (int priority = 0; priority <= 9; priority++) {
                CHECK.yes("setting", x.setting(role, priority, true));
                CHECK.yes("the same setting", x.setting(role, priority, true));
            }
        }
        int[] wrong = {-1, 10, 3, Integer.MIN_VALUE, Integer.MAX_VALUE};
        for (int w : wrong) {
            CHECK.no("setting(" + w + ", 0)", x.setting(w, 0, false));
            if (w != 3) {
                CHECK.no("setting(0, " + w + ")", x.setting(0, w, false));
            }
        }
    }

    private static void refusedSettingChangesNothing() {
        FactBinder x = Check.withNumberConcept();
        x.setting(2, 5, false);
        x.setting(3, 0, true);
        x.setting(0, 10, true);
        x.arc(0, 1, 0, 0, 1);
        CHECK.yes("a refused setting does not prohibit", x.left(0));
        CHECK.problems("a refused setting leaves the role", x, 80200);
        x.setting(2, 4, true);
        x.arc(0, 1, 0, 0, 1);
        CHECK.yes("a refused setting leaves the priority", x.left(0));
        x.setting(2, 6, true);
        CHECK.yes("a setting is for arcs from now on", x.left(0));
        x.arc(0, 1, 0, 0, 1);
        CHECK.no("prohibited by a higher one", x.left(0));
    }

    private static void arcsAreNumbered() {
        FactBinder x = Check.withNumberConcept();
        for (int a = 0; a < 32; a++) {
            CHECK.due("refused in between", -1, x.arc(0, 0, 0, 0, 0));
            CHECK.due("arc", a, x.arc(a % 8, a % 2, 0, 0, a + 1));
        }
        CHECK.due("a 33rd arc", -1, x.arc(0, 0, 0, 0, 80));
        CHECK.no("left(31) in document 7", x.left(31));
        CHECK.yes("left(24) in document 0", x.left(24));
        CHECK.no("left(32)", x.left(32));
    }

    private static void wrongArcsAreRefused() {
        FactBinder x = Check.withNumberConcept();
        int[][] wrong = {
            {-1, 0, 0, 0, 1}, {8, 0, 0, 0, 1}, {0, -1, 0, 0, 1}, {0, 2, 0, 0, 1}, {0, 0, -1, 0, 1},
            {0, 0, 1, 0, 1}, {0, 0, 0, -1, 1}, {0, 0, 0, 1, 1}, {0, 0, 0, 0, 0}, {0, 0, 0, 0, 91},
            {0, 0, 0, 0, -91}, {0, 0, 0, 0, Integer.MIN_VALUE}, {0, 0, 0, Integer.MAX_VALUE, 1},
            {0, 0, Integer.MIN_VALUE, 0, 1}, {0, Integer.MAX_VALUE, 0, 0, 1}
        };
        for (int[] w : wrong) {
            CHECK.due("a wrong arc", -1, x.arc(w[0], w[1], w[2], w[3], w[4]));
        }
        CHECK.due("n of 90", 0, x.arc(0, 0, 0, 0, 90));
        CHECK.due("n of -90", 1, x.arc(7, 1, 0, 0, -90));
        CHECK.due("n of 1", 2, x.arc(0, 1, 0, 0, 1));
        CHECK.due("n of -1", 3, x.arc(0, 1, 0, 0, -1));
    }

    private static void onlyCountingArcsAreLeft() {
        FactBinder x = new FactBinder();
        x.concept(1, 1, 0, 0);
        x.concept(2, 1, 0, 0);
        x.arc(3, 0, 0, 1, 10);
        CHECK.no("nothing is discovered", x.left(0));
        x.enter(3);
        CHECK.no("no concept is known", x.left(0));
        x.enter(1);
        CHECK.no("the concept to which it goes is not known", x.left(0));
        x.enter(2);
        CHECK.yes("all is known", x.left(0));
        CHECK.no("left(-1)", x.left(-1));
        CHECK.no("left(1)", x.left(1));
        CHECK.no("left(MIN)", x.left(Integer.MIN_VALUE));
        CHECK.no("left(MAX)", x.left(Integer.MAX_VALUE));

        FactBinder y = new FactBinder();
        y.concept(1, 1, 0, 0);
        y.concept(2, 1, 0, 0);
        y.arc(3, 0, 0, 1, 10);
        y.enter(1);
        y.enter(2);
        CHECK.no("the arc's document is not discovered", y.left(0));
        y.refer(2, 3);
        CHECK.yes("the arc's document is discovered", y.left(0));

        FactBinder z = new FactBinder();
        z.concept(1, 1, 0, 0);
        z.concept(2, 1, 0, 0);
        z.arc(3, 0, 0, 1, 10);
        z.enter(3);
        z.enter(2);
        CHECK.no("the concept from which it goes is not known", z.left(0));
    }

    private static void alikeArcs() {
        FactBinder x = Check.withNumberConcept();
        x.enter(1);
        x.concept(1, 1, 0, 0);
        x.arc(0, 0, 0, 1, 10);
        x.arc(1, 0, 0, 1, 10);
        CHECK.yes("the lowest number is left", x.left(0));
        CHECK.no("an alike one of another document is not", x.left(1));
        x.arc(0, 1, 0, 1, 10);
        CHECK.yes("another sort is not alike", x.left(2));
        x.arc(0, 0, 1, 1, 10);
        CHECK.yes("another from is not alike", x.left(3));
        x.arc(0, 0, 0, 0, 10);
        CHECK.yes("another to is not alike", x.left(4));
        x.arc(0, 0, 0, 1, -10);
        CHECK.yes("another n is not alike", x.left(5));
        x.setting(1, 9, true);
        x.arc(0, 0, 0, 1, 10);
        CHECK.yes("another role is not alike", x.left(0));
        CHECK.no("a prohibiting one is never left", x.left(6));
    }

    private static void highestPriorityMatters() {
        FactBinder x = Check.withNumberConcept();
        x.setting(0, 4, false);
        x.arc(0, 0, 0, 0, 10);
        x.setting(0, 7, false);
        x.arc(0, 0, 0, 0, 10);
        x.arc(0, 0, 0, 0, 10);
        x.setting(0, 6, true);
        x.arc(0, 0, 0, 0, 10);
        CHECK.no("a lower priority is not left", x.left(0));
        CHECK.yes("the lowest number of the highest priority is", x.left(1));
        CHECK.no("a higher number is not", x.left(2));
        CHECK.no("a prohibiting one is not", x.left(3));
    }

    private static void prohibitingAtTheTop() {
        FactBinder x = Check.withNumberConcept();
        x.setting(0, 9, true);
        x.arc(0, 0, 0, 0, 10);
        x.setting(0, 9, false);
        x.arc(0, 0, 0, 0, 10);
        x.setting(0, 0, false);
        x.arc(0, 0, 0, 0, 10);
        for (int a = 0; a < 3; a++) {
            CHECK.no("one of the highest prohibits: left(" + a + ")", x.left(a));
        }
    }

    private static void arcsThatDoNotCountDoNotMatter() {
        FactBinder x = Check.withNumberConcept();
        x.setting(0, 9, true);
        x.arc(5, 0, 0, 0, 10);
        x.setting(0, 1, false);
        x.arc(0, 0, 0, 0, 10);
        CHECK.yes("an undiscovered prohibition does not matter", x.left(1));
        x.enter(5);
        CHECK.no("a discovered one does", x.left(1));
    }
}
