/** The edges of documents, concepts, the setting and arcs, each sentence with a test of its own. */
public final class TaxonomyEdgeTest {
    private static final int SUM = 0;
    private static final int TREE = 1;
    private static final Check CHECK = new Check("TaxonomyEdgeTest");

    public static void main(String[] args) {
        documentsAre0To7();
        aDocumentRefersOnce();
        aDocumentIsAnEntryOnce();
        everyStepOfAWayIsNeeded();
        typesBalancesAndPeriods();
        atMost16Concepts();
        rolesAre0To2AndPriorities0To9();
        settingIsForArcsFromNowOn();
        sortsAre0And1();
        anArcGoesBetweenConceptsThatExist();
        nIsUpTo90AndNot0();
        atMost32Arcs();
        everyPriorityBeatsTheOneBelow();
        theLowestNumberOfTheHighestIsLeft();
        aProhibitionOfEveryPriority();
        arcsAreAlikeInAllFive();
        onlyArcsThatCountAreCompared();
        CHECK.finish();
    }

    /** "DOCUMENTS 0 .. 7"; "false if one does not exist"; "-1, refused, if document ..." */
    private static void documentsAre0To7() {
        CHECK.range("refer(d, 0)", 0, 7, d -> new FactBinder().refer(d, 0));
        CHECK.range("refer(7, d)", 0, 7, d -> new FactBinder().refer(7, d));
        CHECK.range("enter(d)", 0, 7, d -> new FactBinder().enter(d));
        CHECK.numbered("concept(d, 1, 0, 0)", 0, 7, d -> new FactBinder().concept(d, 1, 0, 0));
        CHECK.numbered("arc(d, 0, 0, 0, 1)", 0, 7, d -> withConcepts(1).arc(d, SUM, 0, 0, 1));
        FactBinder all = new FactBinder();
        for (int d = 0; d < 8; d++) {
            all.enter(d);
        }
        CHECK.range("discovered(d), all are entries", 0, 7, all::discovered);
        CHECK.range("discovered(d), none is", 0, -1, new FactBinder()::discovered);
        for (int d = 0; d < 8; d++) {
            int one = d;
            FactBinder x = new FactBinder();
            x.enter(one);
            CHECK.range("discovered(d), one is", one, one, x::discovered);
        }
    }

    private static FactBinder withConcepts(int count) {
        FactBinder x = new FactBinder();
        x.enter(0);
        for (int c = 0; c < count; c++) {
            x.concept(0, 1, 0, 0);
        }
        return x;
    }

    /** "Document a refers to document b; false if ... it does so already." */
    private static void aDocumentRefersOnce() {
        FactBinder x = new FactBinder();
        CHECK.yes("refer(0, 7)", x.refer(0, 7));
        CHECK.no("refer(0, 7) again", x.refer(0, 7));
        CHECK.yes("refer(7, 0) is another", x.refer(7, 0));
        CHECK.yes("refer(0, 6) is another", x.refer(0, 6));
        CHECK.yes("refer(1, 7) is another", x.refer(1, 7));
        CHECK.yes("refer(7, 7)", x.refer(7, 7));
        CHECK.no("refer(7, 7) again", x.refer(7, 7));
        CHECK.no("refer(0, 7) once more", x.refer(0, 7));
        x.enter(0);
        CHECK.no("refer(0, 7), now discovered", x.refer(0, 7));
        CHECK.yes("what was refused twice still holds", x.discovered(7));
        CHECK.no("refer(1, 7) discovers nothing", x.discovered(1));
    }

    /** "false if it ... is one already." */
    private static void aDocumentIsAnEntryOnce() {
        FactBinder x = new FactBinder();
        x.refer(7, 3);
        CHECK.yes("enter(7)", x.enter(7));
        CHECK.no("enter(7) again", x.enter(7));
        CHECK.yes("enter(3), which is discovered but no entry", x.enter(3));
        CHECK.no("enter(3) again", x.enter(3));
        CHECK.no("enter(7) once more", x.enter(7));
        CHECK.yes("still discovered", x.discovered(7));
        CHECK.yes("still discovered", x.discovered(3));
        CHECK.no("no other", x.discovered(6));
        for (int d = 0; d < 8; d++) {
            CHECK.due("enter(" + d + ")", d == 3 || d == 7 ? 0 : 1, x.enter(d) ? 1 : 0);
        }
        CHECK.range("all are entries: enter(d)", 0, -1, x::enter);
        CHECK.range("all are discovered: discovered(d)", 0, 7, x::discovered);
    }

    /** "A document is DISCOVERED if it is an entry or a discovered document refers to it." */
    private static void everyStepOfAWayIsNeeded() {
        int[] order = {3, 6, 0, 5, 1, 7, 2, 4};
        for (int missing = 0; missing < 7; missing++) {
            FactBinder x = new FactBinder();
            for (int step = 6; step >= 0; step--) {
                if (step != missing) {
                    x.refer(order[step], order[step + 1]);
                }
            }
            x.enter(order[0]);
            for (int i = 0; i < 8; i++) {
                CHECK.due("without step " + missing + ": " + i, i <= missing ? 1 : 0, x.discovered(order[i]) ? 1 : 0);
            }
            x.refer(order[missing], order[missing + 1]);
            for (int i = 0; i < 8; i++) {
                CHECK.yes("with step " + missing + ": " + i, x.discovered(order[i]));
            }
        }
    }

    /** "a type (0 .. 2), a balance (0 .. 2; money alone may have one) and a period (0, 1)" */
    private static void typesBalancesAndPeriods() {
        for (int type = -1; type <= 3; type++) {
            for (int balance = -1; balance <= 3; balance++) {
                int highest = type == 2 ? 2 : 0;
                boolean isSound = type >= 0 && type <= 2 && balance >= 0 && balance <= highest;
                for (int period = -1; period <= 2; period++) {
                    boolean isDue = isSound && (period == 0 || period == 1);
                    String call = "concept(0, " + type + ", " + balance + ", " + period + ")";
                    CHECK.due(call, isDue ? 0 : -1, new FactBinder().concept(0, type, balance, period));
                }
            }
        }
        CHECK.numbered("concept(0, t, 0, 0)", 0, 2, t -> new FactBinder().concept(0, t, 0, 0));
        CHECK.numbered("concept(0, 0, b, 0)", 0, 0, b -> new FactBinder().concept(0, 0, b, 0));
        CHECK.numbered("concept(0, 1, b, 0)", 0, 0, b -> new FactBinder().concept(0, 1, b, 0));
        CHECK.numbered("concept(0, 2, b, 0)", 0, 2, b -> new FactBinder().concept(0, 2, b, 0));
        CHECK.numbered("concept(0, 2, 0, p)", 0, 1, p -> new FactBinder().concept(0, 2, 0, p));
    }

    /** "CONCEPTS, at most 16 ... numbered from 0"; "-1, refused, if ... there are 16" */
    private static void atMost16Concepts() {
        FactBinder x = new FactBinder();
        x.enter(0);
        for (int c = 0; c < 16; c++) {
            CHECK.due("an arc to concept " + c + " before it is there", -1, x.arc(0, TREE, c, c, 1));
            CHECK.due("concept " + c, c, x.concept(0, 1, 0, 0));
        }
        for (int again = 0; again < 3; again++) {
            CHECK.due("a seventeenth", -1, x.concept(1, 2, 2, 1));
            CHECK.due("a seventeenth that is wrong too", -1, x.concept(8, 1, 0, 0));
        }
        CHECK.due("an arc to the sixteenth", 0, x.arc(0, TREE, 15, 15, 1));
        CHECK.due("an arc to a seventeenth", -1, x.arc(0, TREE, 15, 16, 1));
        CHECK.due("an arc from a seventeenth", -1, x.arc(0, TREE, 16, 15, 1));
        x.context(0, -1, 0, 0);
        x.unit(1, 0, 0);
        CHECK.due("a fact of the sixteenth", 0, CHECK.fact(x, "1", 15, 0, 0, 3, 0));
        CHECK.due("a fact of a seventeenth", -1, CHECK.fact(x, "1", 16, 0, 0, 3, 0));
        CHECK.problems("the sixteenth is as it was", x, 80015);
    }

    /** "False, refused, if role is not 0 .. 2 or priority not 0 .. 9." */
    private static void rolesAre0To2AndPriorities0To9() {
        FactBinder x = new FactBinder();
        CHECK.range("setting(r, 0, false)", 0, 2, r -> x.setting(r, 0, false));
        CHECK.range("setting(r, 9, true)", 0, 2, r -> x.setting(r, 9, true));
        CHECK.range("setting(0, p, false)", 0, 9, p -> x.setting(0, p, false));
        CHECK.range("setting(2, p, true)", 0, 9, p -> x.setting(2, p, true));
        CHECK.range("setting(3, p, true)", 0, -1, p -> x.setting(3, p, true));
        CHECK.range("setting(r, 10, true)", 0, -1, r -> x.setting(r, 10, true));
    }

    /** "What arcs get from now on: role, priority, and whether they prohibit." */
    private static void settingIsForArcsFromNowOn() {
        FactBinder x = withConcepts(1);
        x.arc(0, TREE, 0, 0, 1);
        x.setting(2, 9, true);
        CHECK.yes("an arc from before does not prohibit now", x.left(0));
        CHECK.problems("and is in its own role", x, 80000);
        x.arc(0, TREE, 0, 0, 1);
        CHECK.yes("the new one is of another role", x.left(0));
        x.setting(0, 0, false);
        x.setting(1, 1, false);
        x.arc(0, TREE, 0, 0, 1);
        CHECK.problems("the last setting alone is taken", x, 80000, 80100);
        x.arc(0, TREE, 0, 0, 2);
        x.setting(1, 1, true);
        x.arc(0, TREE, 0, 0, 1);
        CHECK.no("all of it", x.left(2));
        CHECK.yes("a setting stays for every arc after it", x.left(3));
    }

    /** "-1, refused, if ... the sort ... does not exist" */
    private static void sortsAre0And1() {
        CHECK.numbered("arc(0, s, 0, 0, 1)", 0, 1, s -> withConcepts(1).arc(0, s, 0, 0, 1));
    }

    /** "-1, refused, if ... a concept does not exist" */
    private static void anArcGoesBetweenConceptsThatExist() {
        int[] counts = {0, 1, 2, 15, 16};
        for (int count : counts) {
            String with = count + " concepts: ";
            CHECK.numbered(with + "arc(0, 0, c, c, 1)", 0, count - 1, c -> withConcepts(count).arc(0, SUM, c, c, 1));
            int last = Math.max(count - 1, 0);
            CHECK.numbered(with + "arc(0, 1, c, last, 1)", 0, count - 1, c -> withConcepts(count).arc(0, TREE, c, last, 1));
            CHECK.numbered(with + "arc(0, 1, last, c, 1)", 0, count - 1, c -> withConcepts(count).arc(0, TREE, last, c, 1));
        }
    }

    /** "a NUMBER n (-90 .. 90, not 0)"; "-1, refused, if ... n is not -90 .. 90 or is 0" */
    private static void nIsUpTo90AndNot0() {
        for (int n = -100; n <= 100; n++) {
            boolean isDue = n != 0 && n >= -90 && n <= 90;
            for (int sort = SUM; sort <= TREE; sort++) {
                CHECK.due("arc with n = " + n, isDue ? 0 : -1, withConcepts(1).arc(0, sort, 0, 0, n));
            }
        }
        CHECK.numbered("arc with n from 1 up", 1, 90, n -> n >= -90 && n < 0 ? -1 : withConcepts(1).arc(0, SUM, 0, 0, n));
        CHECK.numbered("arc with n from -1 down", -90, -1, n -> n <= 90 && n > 0 ? -1 : withConcepts(1).arc(0, SUM, 0, 0, n));
    }

    /** "ARCS, at most 32"; "-1, refused, if ... there are 32"; left: "false if there is none" */
    private static void atMost32Arcs() {
        FactBinder x = withConcepts(2);
        CHECK.range("no arc: left(a)", 0, -1, x::left);
        for (int a = 0; a < 32; a++) {
            CHECK.no("left(" + a + ") before it is there", x.left(a));
            CHECK.due("arc " + a, a, x.arc(0, SUM, 0, 1, a + 1));
            CHECK.yes("left(" + a + ")", x.left(a));
        }
        x.setting(0, 9, true);
        for (int a = 0; a < 3; a++) {
            CHECK.due("a 33rd arc, which would prohibit", -1, x.arc(0, SUM, 0, 1, a + 1));
        }
        CHECK.due("a 33rd arc that is wrong too", -1, x.arc(0, SUM, 0, 2, 91));
        CHECK.range("32 arcs: left(a)", 0, 31, x::left);
    }

    /** Two alike arcs: the first's number is 0, the second's 1. */
    private static FactBinder withAlike(int priority, boolean prohibits, int priority2, boolean prohibits2) {
        FactBinder x = withConcepts(2);
        x.setting(1, priority, prohibits);
        x.arc(0, SUM, 0, 1, 10);
        x.setting(1, priority2, prohibits2);
        x.arc(0, SUM, 0, 1, 10);
        return x;
    }

    private static void dueLeft(String state, FactBinder x, boolean first, boolean second) {
        CHECK.due(state + ": left(0)", first ? 1 : 0, x.left(0) ? 1 : 0);
        CHECK.due(state + ": left(1)", second ? 1 : 0, x.left(1) ? 1 : 0);
    }

    /** "only those with the highest priority among them matter" */
    private static void everyPriorityBeatsTheOneBelow() {
        for (int low = 0; low < 9; low++) {
            for (int high = low + 1; high <= 9; high++) {
                String state = "priorities " + low + " and " + high;
                dueLeft(state, withAlike(low, false, high, false), false, true);
                dueLeft(state + ", turned", withAlike(high, false, low, false), true, false);
            }
        }
    }

    /** "otherwise the one with the lowest number of these is LEFT" */
    private static void theLowestNumberOfTheHighestIsLeft() {
        for (int priority = 0; priority <= 9; priority++) {
            dueLeft("priority " + priority, withAlike(priority, false, priority, false), true, false);
        }
        FactBinder x = withConcepts(2);
        int[] priorities = {3, 5, 4, 5, 5, 0};
        for (int priority : priorities) {
            x.setting(0, priority, false);
            x.arc(0, SUM, 0, 1, 10);
        }
        CHECK.range("of 3, 5, 4, 5, 5, 0 the first 5: left(a)", 1, 1, x::left);
    }

    /** "if one of these prohibits, none of the alike ones is left" */
    private static void aProhibitionOfEveryPriority() {
        for (int priority = 0; priority <= 9; priority++) {
            for (int prohibition = 0; prohibition <= 9; prohibition++) {
                String state = "priority " + priority + ", prohibited by " + prohibition;
                boolean stays = priority > prohibition;
                dueLeft(state, withAlike(priority, false, prohibition, true), stays, false);
                dueLeft(state + ", turned", withAlike(prohibition, true, priority, false), false, stays);
                dueLeft(state + ", both prohibit", withAlike(prohibition, true, priority, true), false, false);
            }
        }
    }

    /** "Arcs that count are ALIKE if role, sort, both concepts and n are the same." */
    private static void arcsAreAlikeInAllFive() {
        int[] first = {1, SUM, 0, 1, 10};
        int[][] others = {
            {0, SUM, 0, 1, 10}, {2, SUM, 0, 1, 10}, {1, TREE, 0, 1, 10}, {1, SUM, 1, 1, 10}, {1, SUM, 0, 0, 10},
            {1, SUM, 1, 0, 10}, {1, SUM, 0, 1, 9}, {1, SUM, 0, 1, 11}, {1, SUM, 0, 1, -10}, {1, SUM, 0, 2, 10},
            {1, SUM, 2, 1, 10}
        };
        for (int[] other : others) {
            dueLeft("not alike", withTwo(first, other, false), true, true);
            dueLeft("not alike, the second prohibits", withTwo(first, other, true), true, false);
        }
        dueLeft("alike", withTwo(first, first, false), false, true);
        dueLeft("alike, the second prohibits", withTwo(first, first, true), false, false);
    }

    /** The first arc of priority 0 in document 0, the second of priority 9 in document 1. */
    private static FactBinder withTwo(int[] first, int[] second, boolean prohibits) {
        FactBinder x = withConcepts(3);
        x.enter(1);
        x.setting(first[0], 0, false);
        x.arc(0, first[1], first[2], first[3], first[4]);
        x.setting(second[0], 9, prohibits);
        x.arc(1, second[1], second[2], second[3], second[4]);
        return x;
    }

    /** "It COUNTS if its document is discovered and both concepts are known. Arcs that count ..." */
    private static void onlyArcsThatCountAreCompared() {
        FactBinder x = withConcepts(2);
        x.setting(0, 5, false);
        x.arc(7, SUM, 0, 1, 10);
        x.arc(0, SUM, 0, 1, 10);
        dueLeft("the lower number does not count", x, false, true);
        x.enter(7);
        dueLeft("it counts", x, true, false);

        FactBinder y = withConcepts(2);
        y.arc(0, SUM, 0, 1, 10);
        y.setting(0, 9, false);
        y.arc(7, SUM, 0, 1, 10);
        dueLeft("the higher priority does not count", y, true, false);
        y.refer(0, 7);
        dueLeft("it counts", y, false, true);
    }
}
