import java.util.function.IntPredicate;
import java.util.function.IntUnaryOperator;

/** Counts the answers that are not as due, and ends the test's program by that count. */
final class Check {
    // What a shift, a byte or a char would take for a number within bounds again.
    private static final int[] WRAPS = {32, 64, 256, 65536, 1 << 30, Integer.MIN_VALUE};

    private final String test;
    private int asked;
    private int wrong;

    Check(String test) {
        this.test = test;
    }

    void due(String call, long want, long got) {
        asked++;
        if (got != want) {
            wrong++;
            System.out.println(test + ": " + call + " answered " + got + ", due is " + want);
        }
    }

    void yes(String call, boolean got) {
        due(call, 1, got ? 1 : 0);
    }

    void no(String call, boolean got) {
        due(call, 0, got ? 1 : 0);
    }

    /** All problems of the object are just these. */
    void problems(String state, FactBinder x, int... want) {
        due(state + ": problems()", want.length, x.problems());
        for (int k = 0; k < want.length; k++) {
            due(state + ": problem(" + k + ")", want[k], x.problem(k));
        }
        due(state + ": problem(" + want.length + ")", -1, x.problem(want.length));
        due(state + ": problem(-1)", -1, x.problem(-1));
    }

    /** A call is accepted from low to high alone; told by its answer true or false. */
    void range(String call, int low, int high, IntPredicate accepted) {
        for (int at = -3; at <= 3; at++) {
            dueInRange(call, low + at, low, high, accepted);
            dueInRange(call, high + at, low, high, accepted);
        }
        for (int wrap : WRAPS) {
            dueInRange(call, low + wrap, low, high, accepted);
            dueInRange(call, high - wrap, low, high, accepted);
        }
        dueInRange(call, Integer.MIN_VALUE, low, high, accepted);
        dueInRange(call, Integer.MAX_VALUE, low, high, accepted);
    }

    private void dueInRange(String call, int number, int low, int high, IntPredicate accepted) {
        boolean want = low <= number && number <= high;
        due(call + " with " + number, want ? 1 : 0, accepted.test(number) ? 1 : 0);
    }

    /** A call answers the number 0 from low to high, and else -1. */
    void numbered(String call, int low, int high, IntUnaryOperator answer) {
        range(call, low, high, number -> {
            int got = answer.applyAsInt(number);
            yes(call + " with " + number + " answers 0 or -1: " + got, got == 0 || got == -1);
            return got == 0;
        });
    }

    int wrongSoFar() {
        return wrong;
    }

    void finish() {
        System.out.println(test + ": " + asked + " answers, " + wrong + " not as due");
        if (wrong != 0 || asked == 0) {
            System.exit(1);
        }
    }

    /** Writes a text, of which every character is accepted. */
    void write(FactBinder x, String text) {
        for (int at = 0; at < text.length(); at++) {
            yes("write " + text.charAt(at) + " of " + text, x.write(text.charAt(at)));
        }
    }

    /** Writes a text and makes a fact of it. */
    int fact(FactBinder x, String text, int concept, int context, int unit, int mode, int k) {
        write(x, text);
        return x.fact(concept, context, unit, mode, k);
    }

    /** An object with one number concept, one instant and the units 1 and 6. */
    static FactBinder withNumberConcept() {
        FactBinder x = new FactBinder();
        x.enter(0);
        x.concept(0, 1, 0, 0);
        x.context(0, -1, 0, 0);
        x.unit(1, 0, 0);
        x.unit(6, 0, 0);
        return x;
    }
}
