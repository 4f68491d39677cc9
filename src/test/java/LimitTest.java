/** The limits of a whole object: its 512 calls, all kinds full at once, and each numbered for itself. */
public final class LimitTest {
    private static final int EXACT = 3;
    private static final int MOST_CALLS = 512;
    private static final Check CHECK = new Check("LimitTest");

    public static void main(String[] args) {
        all512CallsAreAnswered();
        laterCallsEnd();
        eachKindIsNumberedForItself();
        allKindsAreFullAtOnce();
        objectsShareNothing();
        CHECK.finish();
    }

    /** "An object is used for at most 512 calls after it has been made": the last one is as good as the first. */
    private static void all512CallsAreAnswered() {
        FactBinder writing = new FactBinder();
        for (int call = 1; call <= MOST_CALLS; call++) {
            CHECK.due("write, call " + call, call <= 20 ? 1 : 0, writing.write('1') ? 1 : 0);
        }
        FactBinder setting = withOneArcLeft();
        for (int call = 10; call < MOST_CALLS; call++) {
            CHECK.yes("setting, call " + call, setting.setting(call % 3, call % 10, true));
        }
        CHECK.yes("left, call 512", setting.left(0));
        FactBinder asking = withOneArcLeft();
        for (int call = 10; call < MOST_CALLS - 2; call++) {
            CHECK.due("problem, call " + call, call % 2 == 0 ? 80000 : -1, asking.problem(call % 2));
        }
        CHECK.yes("enter, call 510", asking.enter(7));
        CHECK.due("arc, call 511", 1, asking.arc(7, 1, 1, 1, 1));
        CHECK.due("problem, call 512", 80001, asking.problem(1));
    }

    /** Nine calls: two concepts, and a cycle of the first. */
    private static FactBinder withOneArcLeft() {
        FactBinder x = new FactBinder();
        x.enter(0);
        x.concept(0, 1, 0, 0);
        x.concept(0, 1, 0, 0);
        x.arc(0, 1, 0, 0, 1);
        x.context(0, -1, 0, 0);
        x.unit(6, 0, 0);
        x.write('1');
        x.fact(0, 0, 0, EXACT, 0);
        x.problems();
        return x;
    }

    /** "what later calls answer is free": but none throws or fails to end. */
    private static void laterCallsEnd() {
        FactBinder x = withOneArcLeft();
        for (int call = 0; call < 3 * MOST_CALLS; call++) {
            x.refer(call % 8, call / 8 % 8);
            x.enter(call % 9);
            x.concept(0, 2, 1, 0);
            x.setting(call % 4, call % 11, false);
            x.arc(0, call % 2, call % 17, call / 17 % 17, 1 + call % 90);
            x.context(0, -1, call % 10000, 0);
            x.unit(1 + call % 9, 0, 0);
            x.write((char) call);
            x.fact(call % 17, call % 13, call % 9, call % 4, call % 16);
            x.problem(call);
            x.sum(call % 4, call % 21);
        }
        CHECK.yes("there are some problems", x.problems() >= 0);
    }

    /** "numbered from 0, each kind for itself, as they come" */
    private static void eachKindIsNumberedForItself() {
        FactBinder x = new FactBinder();
        for (int i = 0; i < 8; i++) {
            CHECK.due("context", i, x.context(0, -1, i, 0));
            CHECK.due("unit", i, x.unit(1 + i, 0, 0));
            CHECK.due("concept", i, x.concept(i, 1, 0, 0));
            CHECK.due("arc", 2 * i, x.arc(0, 0, i, 0, 1));
            CHECK.due("arc", 2 * i + 1, x.arc(0, 1, 0, i, 1));
            x.write('1');
            CHECK.due("fact", i, x.fact(i, i, i, EXACT, 0));
        }
    }

    /** "at most 16 ... at most 32 ... at most 12 ... at most 8 ... at most 20": one kind's end is not another's. */
    private static void allKindsAreFullAtOnce() {
        FactBinder x = new FactBinder();
        x.enter(0);
        int[] made = new int[5];
        for (int round = 0; round < 33; round++) {
            made[0] += x.concept(0, 1, 0, 0) >= 0 ? 1 : 0;
            made[1] += x.arc(0, 0, 0, 0, 1 + round) >= 0 ? 1 : 0;
            made[2] += x.context(0, -1, round, 0) >= 0 ? 1 : 0;
            made[3] += x.unit(1 + round % 9, 0, 0) >= 0 ? 1 : 0;
            made[4] += CHECK.fact(x, round < 21 ? "1" : "", round % 16, round % 12, round % 8, EXACT, 0) >= 0 ? 1 : 0;
        }
        int[] want = {16, 32, 12, 8, 20};
        for (int kind = 0; kind < 5; kind++) {
            CHECK.due("made of kind " + kind, want[kind], made[kind]);
        }
        CHECK.range("arcs that are left", 0, 31, x::left);
        CHECK.range("facts", 0, 19, f -> x.value(f) == 1000000);
        CHECK.range("contexts", 0, 11, c -> x.sameContext(c, c));
        CHECK.range("units", 0, 7, u -> x.sameUnit(u, u));
    }

    /** "A new object: Nothing there; no text is written": whatever another one holds. */
    private static void objectsShareNothing() {
        FactBinder x = withOneArcLeft();
        x.setting(2, 9, true);
        x.write('5');
        FactBinder y = new FactBinder();
        CHECK.problems("a new object", y);
        CHECK.no("discovered(0)", y.discovered(0));
        CHECK.yes("enter(0)", y.enter(0));
        CHECK.due("concept", 0, y.concept(0, 1, 0, 0));
        CHECK.due("context", 0, y.context(0, -1, 0, 0));
        CHECK.due("unit", 0, y.unit(1, 0, 0));
        CHECK.due("nothing is written", -1, y.fact(0, 0, 0, EXACT, 0));
        CHECK.due("arc", 0, y.arc(0, 1, 0, 0, 1));
        CHECK.problems("the first setting", y, 80000);
        CHECK.problems("the other object is as it was", x, 80000);
        CHECK.due("the other's text is as it was", 1, x.fact(1, 0, 0, EXACT, 0));
        CHECK.due("value", 5000000, x.value(1));
    }
}
