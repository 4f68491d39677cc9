import java.util.ArrayList;
import java.util.List;
import java.util.function.Consumer;
import java.util.function.ToIntFunction;

/**
 * "A call that is refused changes nothing.": after each refused call an object answers every later
 * call as another one does that was made by the same calls without it.
 */
public final class RefusalTest {
    private static final int MIN = Integer.MIN_VALUE;
    private static final int MAX = Integer.MAX_VALUE;
    private static final int MOST_CALLS = 512;
    private static final Check CHECK = new Check("RefusalTest");

    private record Call(String name, ToIntFunction<FactBinder> made) { }

    private record State(String name, Consumer<FactBinder> made) {
        FactBinder fresh() {
            FactBinder x = new FactBinder();
            made.accept(x);
            return x;
        }
    }

    private static final State NEW = new State("new", x -> { });
    private static final State ORDINARY = new State("ordinary", RefusalTest::makeOrdinary);
    private static final State PROHIBITING = new State("prohibiting", x -> {
        makeOrdinary(x);
        x.setting(1, 3, true);
    });
    private static final State FULL = new State("full", RefusalTest::makeFull);

    public static void main(String[] args) {
        State[] states = {NEW, ORDINARY, PROHIBITING, FULL};
        for (State state : states) {
            for (Call call : wrongArguments()) {
                dueRefused(state, call);
            }
            for (Call call : questionsWithoutAnswer()) {
                dueUnchanged(state, call);
            }
        }
        for (Call call : doneAlready()) {
            dueRefused(ORDINARY, call);
            dueRefused(FULL, call);
        }
        for (Call call : withNothingThere()) {
            dueRefused(NEW, call);
        }
        for (Call call : beyondOrdinary()) {
            dueRefused(ORDINARY, call);
            dueRefused(PROHIBITING, call);
        }
        for (Call call : withNoRoom()) {
            dueRefused(FULL, call);
        }
        CHECK.finish();
    }

    /** Some of each kind, problems of every kind, the setting 2, 5, not prohibiting, and "-12." written. */
    private static void makeOrdinary(FactBinder x) {
        x.enter(0);
        x.refer(0, 1);
        x.refer(2, 3);
        x.concept(0, 2, 1, 0);
        x.concept(1, 2, 2, 0);
        x.concept(2, 1, 0, 1);
        x.concept(0, 0, 0, 0);
        x.arc(0, 0, 0, 1, 10);
        x.arc(0, 0, 0, 0, 5);
        x.arc(0, 1, 0, 2, 1);
        x.setting(1, 3, false);
        x.arc(0, 1, 1, 1, 7);
        x.setting(2, 5, false);
        x.context(0, -1, 4, 0);
        x.context(0, 3, 4, 0);
        x.unit(6, 0, 0);
        x.unit(1, 2, 3);
        writeAll(x, "25");
        x.fact(0, 0, 0, 1, -1);
        writeAll(x, "7.5");
        x.fact(1, 0, 0, 2, 1);
        x.fact(3, 0, -1, 0, 0);
        x.fact(3, 0, -1, 0, 0);
        writeAll(x, "-12.");
    }

    /** All that there can be of each kind, and 20 characters written. Concept 15 is a text. */
    private static void makeFull(FactBinder x) {
        for (int d = 0; d < 7; d++) {
            x.refer(d, d + 1);
        }
        x.refer(7, 0);
        x.enter(3);
        for (int c = 0; c < 16; c++) {
            int type = c == 15 ? 0 : 1 + c % 2;
            CHECK.due("concept", c, x.concept(c % 8, type, c % 4 == 1 ? 1 : 0, 0));
        }
        for (int a = 0; a < 32; a++) {
            x.setting(a % 3, a % 10, a % 11 == 10);
            CHECK.due("arc", a, x.arc(a % 8, a % 2, a % 16, (a + 1) % 16, a + 10));
        }
        for (int c = 0; c < 12; c++) {
            CHECK.due("context", c, x.context(0, c % 5 == 4 ? 0 : -1, c / 2 + 1, 0));
        }
        for (int u = 0; u < 8; u++) {
            CHECK.due("unit", u, x.unit(6 + u % 2, 0, u % 3));
        }
        for (int f = 0; f < 20; f++) {
            x.write((char) ('0' + f % 10));
            CHECK.due("fact", f, x.fact(f % 16, f % 12 / 8, f % 7 / 6, 1 + f % 3, f % 5));
        }
        writeAll(x, "12345678.90123456789");
    }

    private static void writeAll(FactBinder x, String text) {
        for (int at = 0; at < text.length(); at++) {
            CHECK.yes("write " + text.charAt(at), x.write(text.charAt(at)));
        }
    }

    private static int bit(boolean answer) {
        return answer ? 1 : 0;
    }

    private static void refer(List<Call> calls, int a, int b) {
        calls.add(new Call("refer(" + a + ", " + b + ")", x -> bit(x.refer(a, b)) - 1));
    }

    private static void enter(List<Call> calls, int d) {
        calls.add(new Call("enter(" + d + ")", x -> bit(x.enter(d)) - 1));
    }

    private static void concept(List<Call> calls, int document, int type, int balance, int period) {
        String name = "concept(" + document + ", " + type + ", " + balance + ", " + period + ")";
        calls.add(new Call(name, x -> x.concept(document, type, balance, period)));
    }

    /** Both prohibiting and not, so that one of them would be a change. */
    private static void setting(List<Call> calls, int role, int priority) {
        calls.add(new Call("setting(" + role + ", " + priority + ", true)", x -> bit(x.setting(role, priority, true)) - 1));
        calls.add(new Call("setting(" + role + ", " + priority + ", false)", x -> bit(x.setting(role, priority, false)) - 1));
    }

    private static void arc(List<Call> calls, int document, int sort, int from, int to, int n) {
        String name = "arc(" + document + ", " + sort + ", " + from + ", " + to + ", " + n + ")";
        calls.add(new Call(name, x -> x.arc(document, sort, from, to, n)));
    }

    private static void context(List<Call> calls, int entity, int start, int end, int scene) {
        String name = "context(" + entity + ", " + start + ", " + end + ", " + scene + ")";
        calls.add(new Call(name, x -> x.context(entity, start, end, scene)));
    }

    private static void unit(List<Call> calls, int a, int b, int c) {
        calls.add(new Call("unit(" + a + ", " + b + ", " + c + ")", x -> x.unit(a, b, c)));
    }

    private static void write(List<Call> calls, char c) {
        calls.add(new Call("write((char) " + (int) c + ")", x -> bit(x.write(c)) - 1));
    }

    private static void fact(List<Call> calls, int concept, int context, int unit, int mode, int k) {
        String name = "fact(" + concept + ", " + context + ", " + unit + ", " + mode + ", " + k + ")";
        calls.add(new Call(name, x -> x.fact(concept, context, unit, mode, k)));
    }

    /** Calls that are refused in every state. */
    private static List<Call> wrongArguments() {
        List<Call> calls = new ArrayList<>();
        int[] noDocuments = {-1, 8, 32, MIN, MAX};
        for (int d : noDocuments) {
            refer(calls, d, 4);
            refer(calls, 0, d);
            refer(calls, d, d);
            enter(calls, d);
            concept(calls, d, 1, 0, 0);
            arc(calls, d, 1, 0, 0, 90);
        }
        int[][] concepts = {
            {4, -1, 0, 0}, {4, 3, 0, 0}, {4, MAX, 0, 0}, {4, 2, -1, 0}, {4, 2, 3, 0}, {4, 2, MIN, 0}, {4, 0, 1, 0},
            {4, 0, 2, 0}, {4, 1, 1, 0}, {4, 1, 2, 0}, {4, 1, 0, -1}, {4, 1, 0, 2}, {4, 1, 0, MAX}
        };
        for (int[] c : concepts) {
            concept(calls, c[0], c[1], c[2], c[3]);
        }
        int[] noRoles = {-1, 3, MIN, MAX};
        for (int role : noRoles) {
            setting(calls, role, 9);
        }
        int[] noPriorities = {-1, 10, MIN, MAX};
        for (int priority : noPriorities) {
            setting(calls, 0, priority);
        }
        int[][] arcs = {
            {0, -1, 0, 0, 90}, {0, 2, 0, 0, 90}, {0, MIN, 0, 0, 90}, {0, 1, -1, 0, 90}, {0, 1, 16, 0, 90},
            {0, 1, MAX, 0, 90}, {0, 1, 0, -1, 90}, {0, 1, 0, 16, 90}, {0, 1, 0, MIN, 90}, {0, 1, 0, 0, 0},
            {0, 1, 0, 0, 91}, {0, 1, 0, 0, -91}, {0, 1, 0, 0, MIN}, {0, 1, 0, 0, MAX}
        };
        for (int[] a : arcs) {
            arc(calls, a[0], a[1], a[2], a[3], a[4]);
        }
        int[][] contexts = {
            {-1, -1, 0, 0}, {10, -1, 0, 0}, {MAX, -1, 0, 0}, {0, -1, 0, -1}, {0, -1, 0, 10}, {0, -1, 0, MIN},
            {0, -1, -1, 0}, {0, -1, 10000, 0}, {0, -1, MAX, 0}, {0, -2, 5, 0}, {0, MIN, 5, 0}, {0, 5, 5, 0},
            {0, 6, 5, 0}, {0, 9999, 10000, 0}, {0, 0, 0, 0}
        };
        for (int[] c : contexts) {
            context(calls, c[0], c[1], c[2], c[3]);
        }
        int[][] units = {
            {0, 0, 0}, {-1, 0, 0}, {10, 0, 0}, {MAX, 0, 0}, {6, -1, 0}, {6, 10, 0}, {6, MIN, 0}, {6, 0, -1},
            {6, 0, 10}, {6, 0, MAX}, {6, 0, 6}, {6, 7, 7}, {6, 6, 6}, {7, 6, 7}
        };
        for (int[] u : units) {
            unit(calls, u[0], u[1], u[2]);
        }
        char[] characters = {'/', ':', ',', '*', ' ', 'e', '\0', '\u0130', '\uffff'};
        for (char c : characters) {
            write(calls, c);
        }
        int[][] facts = {
            {-1, 0, 0, 3, 0}, {16, 0, 0, 3, 0}, {MIN, 0, 0, 3, 0}, {0, -1, 0, 3, 0}, {0, 12, 0, 3, 0}, {0, MAX, 0, 3, 0},
            {0, 0, -2, 3, 0}, {0, 0, 8, 3, 0}, {0, 0, MIN, 3, 0}, {0, 0, 0, -1, 0}, {0, 0, 0, 4, 0}, {0, 0, 0, MAX, 0},
            {0, 0, 0, 1, -10}, {0, 0, 0, 1, 7}, {0, 0, 0, 1, MIN}, {0, 0, 0, 2, -1}, {0, 0, 0, 2, 16}, {0, 0, 0, 2, MAX}
        };
        for (int[] f : facts) {
            fact(calls, f[0], f[1], f[2], f[3], f[4]);
        }
        return calls;
    }

    /** What both the ordinary and the full state have said before. */
    private static List<Call> doneAlready() {
        List<Call> calls = new ArrayList<>();
        refer(calls, 0, 1);
        refer(calls, 2, 3);
        calls.add(new Call("enter(0) or enter(3)", x -> bit(x.enter(x.sameUnit(7, 7) ? 3 : 0)) - 1));
        return calls;
    }

    private static List<Call> withNothingThere() {
        List<Call> calls = new ArrayList<>();
        arc(calls, 0, 1, 0, 0, 1);
        fact(calls, 0, 0, -1, 0, 0);
        fact(calls, 0, 0, 0, 3, 0);
        return calls;
    }

    /** The first numbers that the ordinary state does not have. */
    private static List<Call> beyondOrdinary() {
        List<Call> calls = new ArrayList<>();
        arc(calls, 0, 1, 4, 0, 1);
        arc(calls, 0, 1, 0, 4, 1);
        fact(calls, 4, 0, -1, 0, 0);
        fact(calls, 0, 2, 0, 3, 0);
        fact(calls, 0, 0, 2, 3, 0);
        fact(calls, 3, 2, -1, 0, 0);
        fact(calls, 3, 0, 2, 0, 0);
        fact(calls, 3, 0, -1, 1, 7);
        return calls;
    }

    /** Calls that are wrong for nothing but the room; and a fact of 20 characters, which are no number. */
    private static List<Call> withNoRoom() {
        List<Call> calls = new ArrayList<>();
        for (int document = 0; document < 8; document++) {
            concept(calls, document, 2, 1, 1);
            arc(calls, document, 1, document, document, 90);
        }
        concept(calls, 0, 0, 0, 0);
        arc(calls, 0, 0, 15, 15, -90);
        context(calls, 0, -1, 1, 0);
        context(calls, 9, 0, 9999, 9);
        unit(calls, 6, 0, 0);
        unit(calls, 9, 9, 1);
        char[] characters = {'0', '9', '.', '+', '-'};
        for (char c : characters) {
            write(calls, c);
        }
        fact(calls, 0, 0, 0, 3, 0);
        fact(calls, 15, 11, 7, 1, 6);
        fact(calls, 15, 11, -1, 0, 0);
        return calls;
    }

    /** Questions about what is not there, which are answered, and change nothing either. */
    private static List<Call> questionsWithoutAnswer() {
        List<Call> calls = new ArrayList<>();
        int[] missing = {-1, 32, MIN, MAX};
        for (int m : missing) {
            calls.add(new Call("discovered(" + m + ")", x -> bit(x.discovered(m))));
            calls.add(new Call("left(" + m + ")", x -> bit(x.left(m))));
            calls.add(new Call("sameContext(0, " + m + ")", x -> bit(x.sameContext(0, m))));
            calls.add(new Call("sameUnit(" + m + ", 0)", x -> bit(x.sameUnit(m, 0))));
            calls.add(new Call("value(" + m + ")", x -> (int) x.value(m)));
            calls.add(new Call("places(" + m + ")", x -> x.places(m)));
            calls.add(new Call("rounded(" + m + ")", x -> (int) x.rounded(m)));
            calls.add(new Call("sum(" + m + ", 0)", x -> (int) x.sum(m, 0)));
            calls.add(new Call("sum(0, " + m + ")", x -> (int) x.sum(0, m)));
            calls.add(new Call("problem(" + m + ")", x -> x.problem(m)));
        }
        return calls;
    }

    private static void dueRefused(State state, Call call) {
        CHECK.due(state.name + ": " + call.name, -1, call.made.applyAsInt(state.fresh()));
        dueUnchanged(state, call);
    }

    private static void dueUnchanged(State state, Call call) {
        String after = state.name + ", after " + call.name;
        dueSame(after, atOnce(state, null), atOnce(state, call));
        dueSame(after + " and more", later(state, null), later(state, call));
    }

    private static void dueSame(String after, List<String> want, List<String> got) {
        CHECK.yes("no object is asked too much: " + want.size(), want.size() < MOST_CALLS - 200);
        CHECK.due(after + ": answers", want.size(), got.size());
        for (int i = 0; i < Math.min(want.size(), got.size()); i++) {
            CHECK.yes(after + ": " + got.get(i) + ", due is " + want.get(i), want.get(i).equals(got.get(i)));
        }
    }

    /** All that can be asked, right after the call, if there is one. */
    private static List<String> atOnce(State state, Call call) {
        FactBinder x = state.fresh();
        if (call != null) {
            call.made.applyAsInt(x);
        }
        List<String> answers = new ArrayList<>();
        lookAtThings(x, answers);
        lookAtFacts(x, answers);
        return answers;
    }

    /** What goes on after the call, made so that what is written and the setting can be seen too. */
    private static List<String> later(State state, Call call) {
        FactBinder x = state.fresh();
        if (call != null) {
            call.made.applyAsInt(x);
        }
        List<String> answers = new ArrayList<>();
        seeWhatIsWritten(x, answers);
        add(answers, "enter", bit(x.enter(0)));
        seeTheSetting(x, answers);
        add(answers, "concept", x.concept(4, 0, 0, 0));
        add(answers, "context", x.context(1, 2, 3, 4));
        add(answers, "unit", x.unit(1, 2, 0));
        add(answers, "refer(0, 1)", bit(x.refer(0, 1)));
        add(answers, "refer(2, 3)", bit(x.refer(2, 3)));
        add(answers, "refer(0, 4)", bit(x.refer(0, 4)));
        add(answers, "refer(4, 4)", bit(x.refer(4, 4)));
        add(answers, "enter", bit(x.enter(4)));
        lookAtThings(x, answers);
        lookAtProblems(x, answers);
        return answers;
    }

    private static void add(List<String> answers, String call, long answer) {
        answers.add(call + " answered " + answer);
    }

    private static void seeWhatIsWritten(FactBinder x, List<String> answers) {
        add(answers, "write 5", bit(x.write('5')));
        int f = x.fact(0, 0, 0, 3, 0);
        add(answers, "a fact of what is written", f);
        add(answers, "its value", x.value(f));
        int room = 0;
        while (room < 25 && x.write('.')) {
            room++;
        }
        add(answers, "room for characters", room);
        add(answers, "a text fact", x.fact(3, 0, -1, 0, 0));
    }

    /** An arc gets the setting; arcs that are alike in each role tell its role, priority and prohibition. */
    private static void seeTheSetting(FactBinder x, List<String> answers) {
        add(answers, "a concept that is known", x.concept(0, 1, 0, 0));
        for (int n = 20; n <= 22; n++) {
            add(answers, "an arc with the setting", x.arc(0, 1, 0, 0, n));
        }
        add(answers, "an arc with the setting", x.arc(0, 1, 1, 1, 7));
        lookAtProblems(x, answers);
        int[][] settings = {{0, 0, 20}, {1, 0, 20}, {2, 0, 20}, {1, 3, 21}, {2, 4, 21}, {1, 4, 22}, {2, 5, 22}};
        for (int[] s : settings) {
            add(answers, "setting", bit(x.setting(s[0], s[1], true)));
            add(answers, "an alike arc that prohibits", x.arc(0, 1, 0, 0, s[2]));
        }
        for (int[] s : settings) {
            add(answers, "setting", bit(x.setting(s[0], s[1], false)));
            add(answers, "an alike arc that does not", x.arc(0, 1, 1, 1, 7));
        }
    }

    private static void lookAtThings(FactBinder x, List<String> answers) {
        for (int d = 0; d < 8; d++) {
            add(answers, "discovered(" + d + ")", bit(x.discovered(d)));
        }
        for (int a = 0; a < 32; a++) {
            add(answers, "left(" + a + ")", bit(x.left(a)));
        }
        for (int c = 0; c < 12; c++) {
            add(answers, "sameContext(" + c + ", " + c + ")", bit(x.sameContext(c, c)));
            add(answers, "sameContext(" + c + ", 0)", bit(x.sameContext(c, 0)));
        }
        for (int u = 0; u < 8; u++) {
            add(answers, "sameUnit(" + u + ", " + u + ")", bit(x.sameUnit(u, u)));
            add(answers, "sameUnit(0, " + u + ")", bit(x.sameUnit(0, u)));
        }
    }

    private static void lookAtFacts(FactBinder x, List<String> answers) {
        for (int f = 0; f < 20; f++) {
            add(answers, "value(" + f + ")", x.value(f));
            add(answers, "places(" + f + ")", x.places(f));
            add(answers, "rounded(" + f + ")", x.rounded(f));
            for (int role = 0; role <= 2; role++) {
                add(answers, "sum(" + role + ", " + f + ")", x.sum(role, f));
            }
        }
        lookAtProblems(x, answers);
    }

    private static void lookAtProblems(FactBinder x, List<String> answers) {
        int count = x.problems();
        add(answers, "problems()", count);
        for (int k = 0; k < count; k++) {
            add(answers, "problem(" + k + ")", x.problem(k));
        }
    }
}
