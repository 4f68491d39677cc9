/** Promises 1, 2, 3 and 11: a new object, refer, enter and discovered. */
public final class DocumentsTest {
    private static final int[] NO_DOCUMENTS = {
        -1, 8, 9, 31, 32, 64, -8, Integer.MIN_VALUE, Integer.MAX_VALUE
    };
    private static final Check CHECK = new Check("DocumentsTest");

    public static void main(String[] args) {
        newObjectIsEmpty();
        newObjectHasFirstSetting();
        referAnswers();
        enterAnswers();
        discoveryFollowsReferences();
        discoveryComesInAnyOrder();
        longestWayIsFollowed();
        refusedCallsChangeNothing();
        CHECK.finish();
    }

    private static void newObjectIsEmpty() {
        FactBinder x = new FactBinder();
        for (int d = -1; d <= 8; d++) {
            CHECK.no("new: discovered(" + d + ")", x.discovered(d));
        }
        for (int i = -1; i <= 1; i++) {
            CHECK.no("new: left(" + i + ")", x.left(i));
            CHECK.no("new: sameContext(" + i + ", " + i + ")", x.sameContext(i, i));
            CHECK.no("new: sameUnit(" + i + ", " + i + ")", x.sameUnit(i, i));
            CHECK.due("new: value(" + i + ")", 0, x.value(i));
            CHECK.due("new: places(" + i + ")", 99, x.places(i));
            CHECK.due("new: rounded(" + i + ")", 0, x.rounded(i));
            CHECK.due("new: sum(0, " + i + ")", 0, x.sum(0, i));
        }
        CHECK.problems("new", x);
        CHECK.due("new: first concept", 0, x.concept(0, 1, 0, 0));
        CHECK.due("new: first context", 0, x.context(0, -1, 0, 0));
        CHECK.due("new: first unit", 0, x.unit(1, 0, 0));
        CHECK.due("new: first arc", 0, x.arc(0, 0, 0, 0, 1));
        CHECK.due("new: no text is written", -1, x.fact(0, 0, 0, 3, 0));
        CHECK.write(x, "1");
        CHECK.due("new: first fact", 0, x.fact(0, 0, 0, 3, 0));
    }

    private static void newObjectHasFirstSetting() {
        FactBinder x = Check.withNumberConcept();
        x.concept(0, 1, 0, 0);
        x.arc(0, 0, 0, 1, 10);
        CHECK.yes("the first setting does not prohibit", x.left(0));
        x.setting(0, 0, true);
        x.arc(0, 0, 0, 1, 10);
        CHECK.no("the first setting is role 0, priority 0 at the most", x.left(0));

        FactBinder y = Check.withNumberConcept();
        y.arc(0, 1, 0, 0, 1);
        y.setting(0, 0, false);
        y.arc(0, 1, 0, 0, 1);
        CHECK.yes("the first setting is priority 0 at the least", y.left(0));
        CHECK.no("so an alike arc of priority 0 is not left", y.left(1));
        CHECK.problems("the first setting is role 0", y, 80000);
    }

    private static void referAnswers() {
        FactBinder x = new FactBinder();
        for (int a = 0; a < 8; a++) {
            for (int b = 0; b < 8; b++) {
                CHECK.yes("refer(" + a + ", " + b + ")", x.refer(a, b));
                CHECK.no("refer(" + a + ", " + b + ") again", x.refer(a, b));
            }
        }
        FactBinder y = new FactBinder();
        for (int wrong : NO_DOCUMENTS) {
            CHECK.no("refer(0, " + wrong + ")", y.refer(0, wrong));
            CHECK.no("refer(" + wrong + ", 0)", y.refer(wrong, 0));
            CHECK.no("refer(" + wrong + ", " + wrong + ")", y.refer(wrong, wrong));
        }
        CHECK.yes("refer(0, 7) is not refer(7, 0)", y.refer(0, 7));
        CHECK.yes("refer(7, 0)", y.refer(7, 0));
    }

    private static void enterAnswers() {
        FactBinder x = new FactBinder();
        for (int wrong : NO_DOCUMENTS) {
            CHECK.no("enter(" + wrong + ")", x.enter(wrong));
            CHECK.no("discovered(" + wrong + ")", x.discovered(wrong));
        }
        for (int d = 0; d < 8; d++) {
            CHECK.yes("enter(" + d + ")", x.enter(d));
            CHECK.yes("discovered(" + d + ")", x.discovered(d));
            CHECK.no("enter(" + d + ") again", x.enter(d));
            CHECK.no("discovered(" + (d + 1) + ")", x.discovered(d + 1));
        }
        FactBinder y = new FactBinder();
        y.enter(0);
        y.refer(0, 1);
        CHECK.yes("a discovered document may become an entry", y.enter(1));
        CHECK.no("but once", y.enter(1));
        for (int wrong : NO_DOCUMENTS) {
            CHECK.no("discovered(" + wrong + ")", y.discovered(wrong));
        }
    }

    private static void discoveryFollowsReferences() {
        FactBinder x = new FactBinder();
        x.refer(3, 5);
        x.refer(5, 3);
        x.refer(5, 6);
        x.refer(1, 1);
        CHECK.no("no entry: discovered(5)", x.discovered(5));
        CHECK.no("a document's own reference discovers nothing", x.discovered(1));
        x.enter(5);
        CHECK.yes("discovered(5)", x.discovered(5));
        CHECK.yes("discovered(3)", x.discovered(3));
        CHECK.yes("discovered(6)", x.discovered(6));
        CHECK.no("discovered(1)", x.discovered(1));
        x.refer(2, 5);
        CHECK.no("who refers to a discovered one is not discovered", x.discovered(2));
    }

    private static void discoveryComesInAnyOrder() {
        FactBinder x = new FactBinder();
        x.enter(0);
        x.refer(1, 2);
        CHECK.no("discovered(2) before refer(0, 1)", x.discovered(2));
        x.refer(0, 1);
        CHECK.yes("discovered(1) after refer(0, 1)", x.discovered(1));
        CHECK.yes("discovered(2) after refer(0, 1)", x.discovered(2));
    }

    private static void longestWayIsFollowed() {
        FactBinder down = new FactBinder();
        FactBinder up = new FactBinder();
        for (int d = 0; d < 7; d++) {
            down.refer(d + 1, d);
            up.refer(d, d + 1);
        }
        down.enter(7);
        up.enter(0);
        for (int d = 0; d < 8; d++) {
            CHECK.yes("way down: discovered(" + d + ")", down.discovered(d));
            CHECK.yes("way up: discovered(" + d + ")", up.discovered(d));
        }
    }

    private static void refusedCallsChangeNothing() {
        FactBinder x = new FactBinder();
        x.enter(0);
        x.refer(0, 8);
        x.refer(8, 1);
        x.refer(32, 1);
        x.refer(-32, 1);
        x.refer(0, 33);
        x.enter(33);
        x.enter(-31);
        for (int d = 1; d < 8; d++) {
            CHECK.no("after refused calls: discovered(" + d + ")", x.discovered(d));
        }
    }
}
