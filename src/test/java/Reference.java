import java.math.BigDecimal;
import java.math.BigInteger;
import java.math.RoundingMode;
import java.util.ArrayList;
import java.util.HashSet;
import java.util.List;
import java.util.Set;
import java.util.TreeSet;

/**
 * The document once more, as slow and as plain as can be and with the whole Java library: every
 * answer is worked out anew from what was said.
 */
final class Reference {
    record Concept(int document, int type, int balance, int period) { }

    record Arc(int document, int sort, int from, int to, int n, int role, int priority, boolean prohibits) {
        List<Integer> likeness() {
            return List.of(role, sort, from, to, n);
        }
    }

    record Context(int entity, int start, int end, int scene) { }

    record Unit(List<Integer> above, int below) { }

    record Fact(int concept, Context context, Unit unit, int mode, int k, BigDecimal value) { }

    private static final String NUMBER = "[+-]?[0-9]{0,9}([.][0-9]{0,6})?";

    private final Set<List<Integer>> references = new HashSet<>();
    private final Set<Integer> entries = new HashSet<>();
    private final List<Concept> concepts = new ArrayList<>();
    private final List<Arc> arcs = new ArrayList<>();
    private final List<Context> contexts = new ArrayList<>();
    private final List<Unit> units = new ArrayList<>();
    private final List<Fact> facts = new ArrayList<>();
    private String written = "";
    private int role = 0;
    private int priority = 0;
    private boolean prohibits = false;

    private static boolean in(int number, int low, int high) {
        return low <= number && number <= high;
    }

    boolean refer(int a, int b) {
        return in(a, 0, 7) && in(b, 0, 7) && references.add(List.of(a, b));
    }

    boolean enter(int d) {
        return in(d, 0, 7) && entries.add(d);
    }

    private static <T> int add(List<T> all, T one, int most) {
        if (all.size() == most) {
            return -1;
        }
        all.add(one);
        return all.size() - 1;
    }

    int concept(int document, int type, int balance, int period) {
        if (!in(document, 0, 7) || !in(type, 0, 2) || !in(balance, 0, 2) || !in(period, 0, 1)) {
            return -1;
        }
        if (type != 2 && balance != 0) {
            return -1;
        }
        return add(concepts, new Concept(document, type, balance, period), 16);
    }

    boolean setting(int newRole, int newPriority, boolean newProhibits) {
        if (!in(newRole, 0, 2) || !in(newPriority, 0, 9)) {
            return false;
        }
        role = newRole;
        priority = newPriority;
        prohibits = newProhibits;
        return true;
    }

    int arc(int document, int sort, int from, int to, int n) {
        if (!in(document, 0, 7) || !in(sort, 0, 1) || !in(n, -90, 90) || n == 0) {
            return -1;
        }
        if (!in(from, 0, concepts.size() - 1) || !in(to, 0, concepts.size() - 1)) {
            return -1;
        }
        return add(arcs, new Arc(document, sort, from, to, n, role, priority, prohibits), 32);
    }

    int context(int entity, int start, int end, int scene) {
        if (!in(entity, 0, 9) || !in(scene, 0, 9) || !in(end, 0, 9999)) {
            return -1;
        }
        if (start != -1 && !(in(start, 0, 9999) && start < end)) {
            return -1;
        }
        return add(contexts, new Context(entity, start, end, scene), 12);
    }

    int unit(int a, int b, int c) {
        if (!in(a, 1, 9) || !in(b, 0, 9) || !in(c, 0, 9) || c != 0 && (c == a || c == b)) {
            return -1;
        }
        List<Integer> above = new ArrayList<>(b == 0 ? List.of(a) : List.of(a, b));
        above.sort(null);
        return add(units, new Unit(above, c), 8);
    }

    boolean write(char c) {
        if (written.length() == 20 || "0123456789.+-".indexOf(c) < 0) {
            return false;
        }
        written += c;
        return true;
    }

    int fact(int concept, int context, int unit, int mode, int k) {
        if (!in(concept, 0, concepts.size() - 1) || !in(context, 0, contexts.size() - 1)) {
            return -1;
        }
        if (!in(unit, -1, units.size() - 1) || !in(mode, 0, 3) || facts.size() == 20) {
            return -1;
        }
        if (mode == 1 && !in(k, -9, 6) || mode == 2 && !in(k, 0, 15)) {
            return -1;
        }
        BigDecimal value = BigDecimal.ZERO;
        if (concepts.get(concept).type() != 0) {
            if (!written.matches(NUMBER) || !written.matches(".*[0-9].*")) {
                return -1;
            }
            value = new BigDecimal(written.replaceAll("[.]$", ""));
        }
        written = "";
        Unit of = unit == -1 ? null : units.get(unit);
        return add(facts, new Fact(concept, contexts.get(context), of, mode, k, value), 20);
    }

    boolean discovered(int d) {
        Set<Integer> all = new HashSet<>(entries);
        boolean grew = true;
        while (grew) {
            grew = false;
            for (List<Integer> reference : references) {
                grew |= all.contains(reference.get(0)) && all.add(reference.get(1));
            }
        }
        return all.contains(d);
    }

    private boolean known(int concept) {
        return discovered(concepts.get(concept).document());
    }

    private boolean counts(Arc arc) {
        return discovered(arc.document()) && known(arc.from()) && known(arc.to());
    }

    boolean left(int a) {
        if (!in(a, 0, arcs.size() - 1) || !counts(arcs.get(a))) {
            return false;
        }
        List<Integer> alike = new ArrayList<>();
        int highest = 0;
        for (int b = 0; b < arcs.size(); b++) {
            if (counts(arcs.get(b)) && arcs.get(b).likeness().equals(arcs.get(a).likeness())) {
                alike.add(b);
                highest = Math.max(highest, arcs.get(b).priority());
            }
        }
        int lowest = -1;
        for (int b : alike) {
            if (arcs.get(b).priority() == highest) {
                if (arcs.get(b).prohibits()) {
                    return false;
                }
                lowest = lowest == -1 ? b : lowest;
            }
        }
        return a == lowest;
    }

    boolean sameContext(int a, int b) {
        return in(a, 0, contexts.size() - 1) && in(b, 0, contexts.size() - 1)
                && contexts.get(a).equals(contexts.get(b));
    }

    boolean sameUnit(int a, int b) {
        return in(a, 0, units.size() - 1) && in(b, 0, units.size() - 1)
                && units.get(a).equals(units.get(b));
    }

    private static long millionths(BigDecimal number) {
        return number.movePointRight(6).longValueExact();
    }

    long value(int f) {
        return in(f, 0, facts.size() - 1) ? millionths(facts.get(f).value()) : 0;
    }

    int places(int f) {
        if (!in(f, 0, facts.size() - 1)) {
            return 99;
        }
        Fact fact = facts.get(f);
        if (fact.mode() == 1) {
            return fact.k();
        }
        if (fact.mode() != 2 || fact.value().signum() == 0) {
            return 6;
        }
        BigInteger whole = fact.value().abs().toBigInteger();
        int places = fact.k();
        if (whole.signum() != 0) {
            places -= whole.toString().length();
        } else {
            String behind = fact.value().abs().setScale(6).toPlainString().substring(2);
            places += behind.length() - behind.replaceAll("^0+", "").length();
        }
        return places > 6 ? 6 : places < -9 ? -9 : places;
    }

    private BigDecimal round(int f) {
        return facts.get(f).value().setScale(places(f), RoundingMode.HALF_EVEN);
    }

    long rounded(int f) {
        return in(f, 0, facts.size() - 1) ? millionths(round(f)) : 0;
    }

    private int fault(Fact fact) {
        Concept concept = concepts.get(fact.concept());
        if (!known(fact.concept())) {
            return 1;
        }
        if (concept.type() == 0 && fact.unit() != null || concept.type() != 0 && fact.unit() == null) {
            return 2;
        }
        if (concept.type() == 2) {
            Unit unit = fact.unit();
            if (unit.above().size() != 1 || unit.above().get(0) < 6 || unit.below() != 0) {
                return 2;
            }
        }
        if ((fact.context().start() == -1) != (concept.period() == 0)) {
            return 3;
        }
        if (concept.type() == 0 && fact.mode() != 0 || concept.type() != 0 && fact.mode() == 0) {
            return 4;
        }
        return 0;
    }

    private boolean sameStand(Fact a, Fact b) {
        return a.context().equals(b.context()) && java.util.Objects.equals(a.unit(), b.unit());
    }

    private int lowestTwin(int f) {
        for (int g = 0; g < facts.size(); g++) {
            Fact a = facts.get(f);
            Fact b = facts.get(g);
            if (g != f && a.concept() == b.concept() && sameStand(a, b)) {
                return g;
            }
        }
        return -1;
    }

    private boolean adds(int f) {
        Fact fact = facts.get(f);
        return concepts.get(fact.concept()).type() != 0 && fault(fact) == 0 && lowestTwin(f) == -1;
    }

    /** Pairs of an arc's n and a part. */
    private List<int[]> parts(int inRole, int f) {
        List<int[]> parts = new ArrayList<>();
        if (!adds(f)) {
            return parts;
        }
        for (int a = 0; a < arcs.size(); a++) {
            Arc arc = arcs.get(a);
            if (arc.role() != inRole || arc.sort() != 0 || arc.from() != facts.get(f).concept() || !left(a)) {
                continue;
            }
            for (int g = 0; g < facts.size(); g++) {
                boolean isPart = facts.get(g).concept() == arc.to() && adds(g)
                        && sameStand(facts.get(g), facts.get(f));
                if (isPart) {
                    parts.add(new int[] {arc.n(), g});
                }
            }
        }
        return parts;
    }

    private BigDecimal total(int inRole, int f) {
        BigDecimal total = BigDecimal.ZERO;
        for (int[] part : parts(inRole, f)) {
            total = total.add(round(part[1]).multiply(BigDecimal.valueOf(part[0])));
        }
        return total;
    }

    long sum(int inRole, int f) {
        if (!in(inRole, 0, 2) || !in(f, 0, facts.size() - 1)) {
            return 0;
        }
        return millionths(total(inRole, f));
    }

    private boolean isVague(int f) {
        return facts.get(f).mode() == 2 && facts.get(f).k() == 0;
    }

    private boolean agrees(int inRole, int f) {
        if (isVague(f)) {
            return false;
        }
        for (int[] part : parts(inRole, f)) {
            if (isVague(part[1])) {
                return false;
            }
        }
        BigDecimal tenth = total(inRole, f).movePointLeft(1);
        return tenth.setScale(places(f), RoundingMode.HALF_EVEN).compareTo(round(f)) == 0;
    }

    private boolean cycles(int inRole, int concept) {
        Set<Integer> seen = new HashSet<>();
        List<Integer> open = new ArrayList<>(List.of(concept));
        while (!open.isEmpty()) {
            int at = open.remove(open.size() - 1);
            for (int a = 0; a < arcs.size(); a++) {
                Arc arc = arcs.get(a);
                if (arc.role() == inRole && arc.sort() == 1 && arc.from() == at && left(a) && seen.add(arc.to())) {
                    open.add(arc.to());
                }
            }
        }
        return seen.contains(concept);
    }

    private boolean isWrongSign(Arc arc) {
        int from = concepts.get(arc.from()).balance();
        int to = concepts.get(arc.to()).balance();
        return from != 0 && to != 0 && (from == to && arc.n() < 0 || from != to && arc.n() > 0);
    }

    List<Integer> allProblems() {
        Set<Integer> all = new TreeSet<>();
        for (int f = 0; f < facts.size(); f++) {
            int fault = fault(facts.get(f));
            if (fault != 0) {
                all.add(fault * 10000 + 100 * f);
            }
            int twin = lowestTwin(f);
            if (twin != -1 && twin < f) {
                all.add(50000 + 100 * f + twin);
            }
        }
        for (int a = 0; a < arcs.size(); a++) {
            Arc arc = arcs.get(a);
            if (discovered(arc.document()) && !counts(arc)) {
                all.add(60000 + 100 * a);
            }
            if (arc.sort() == 0 && left(a) && isWrongSign(arc)) {
                all.add(70000 + 100 * a);
            }
        }
        for (int inRole = 0; inRole <= 2; inRole++) {
            for (int c = 0; c < concepts.size(); c++) {
                if (cycles(inRole, c)) {
                    all.add(80000 + 100 * inRole + c);
                }
            }
            for (int f = 0; f < facts.size(); f++) {
                if (!parts(inRole, f).isEmpty() && !agrees(inRole, f)) {
                    all.add(90000 + 100 * inRole + f);
                }
            }
        }
        return new ArrayList<>(all);
    }

    boolean isStuck() {
        return !written.isEmpty() && !written.matches(NUMBER);
    }

    int countBoundAndAgreeing() {
        int count = 0;
        for (int inRole = 0; inRole <= 2; inRole++) {
            for (int f = 0; f < facts.size(); f++) {
                count += !parts(inRole, f).isEmpty() && agrees(inRole, f) ? 1 : 0;
            }
        }
        return count;
    }
}
