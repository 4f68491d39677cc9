/** Counts the answers that are not as due, and ends the test's program by that count. */
final class Check {
    private final String test;
    private int asked;
    private int wrong;

    Check(String test) {
        this.test = test;
    }

    void due(String call, long want, long got) {
        asked++;
        if (got != want) {
            wrong++;
            System.out.println(test + ": " + call + " answered " + got + ", due is " + want);
        }
    }

    void yes(String call, boolean got) {
        due(call, 1, got ? 1 : 0);
    }

    void no(String call, boolean got) {
        due(call, 0, got ? 1 : 0);
    }

    /** All problems of the object are just these. */
    void problems(String state, FactBinder x, int... want) {
        due(state + ": problems()", want.length, x.problems());
        for (int k = 0; k < want.length; k++) {
            due(state + ": problem(" + k + ")", want[k], x.problem(k));
        }
        due(state + ": problem(" + want.length + ")", -1, x.problem(want.length));
        due(state + ": problem(-1)", -1, x.problem(-1));
    }

    int wrongSoFar() {
        return wrong;
    }

    void finish() {
        System.out.println(test + ": " + asked + " answers, " + wrong + " not as due");
        if (wrong != 0 || asked == 0) {
            System.exit(1);
        }
    }

    /** Writes a text, of which every character is accepted. */
    void write(FactBinder x, String text) {
        for (int at = 0; at < text.length(); at++) {
            yes("write " + text.charAt(at) + " of " + text, x.write(text.charAt(at)));
        }
    }

    /** An object with one number concept, one instant and the units 1 and 6. */
    static FactBinder withNumberConcept() {
        FactBinder x = new FactBinder();
        x.enter(0);
        x.concept(0, 1, 0, 0);
        x.context(0, -1, 0, 0);
        x.unit(1, 0, 0);
        x.unit(6, 0, 0);
        return x;
    }
}
