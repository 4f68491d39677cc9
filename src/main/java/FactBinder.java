/**
 * Checks a report of facts against a taxonomy: which documents belong to it, which relationships
 * are left, whether every fact has what its concept wants, and whether the totals agree.
 */
public final class FactBinder {
    private static final int DOCUMENTS = 8;
    private static final int ROLES = 3;
    private static final int MOST_CONCEPTS = 16;
    private static final int MOST_ARCS = 32;
    private static final int MOST_CONTEXTS = 12;
    private static final int MOST_UNITS = 8;
    private static final int MOST_FACTS = 20;
    private static final int MOST_WRITTEN = 20;
    // A fact has at most one fault and one twin to tell; no arc is both loose and of wrong sign.
    private static final int MOST_PROBLEMS =
            2 * MOST_FACTS + MOST_ARCS + ROLES * (MOST_CONCEPTS + MOST_FACTS);

    private static final int REFUSED = -1;
    private static final int NO_UNIT = -1;
    private static final int NO_START = -1;
    private static final int NO_TWIN = -1;
    private static final int NO_PLACES = 99;

    private static final int TEXT = 0;
    private static final int MONEY = 2;

    private static final int FIRST_CURRENCY = 6;

    private static final int SUM = 0;
    private static final int TREE = 1;

    private static final int NO_ACCURACY = 0;
    private static final int DECIMALS = 1;
    private static final int PRECISION = 2;
    private static final int EXACT = 3;

    private static final int NO_FAULT = 0;
    private static final int UNKNOWN = 1;
    private static final int WRONG_UNIT = 2;
    private static final int WRONG_PERIOD = 3;
    private static final int WRONG_ACCURACY = 4;
    private static final int TWIN = 5;
    private static final int LOOSE = 6;
    private static final int SIGN = 7;
    private static final int CYCLE = 8;
    private static final int TOTAL = 9;

    private static final int FEWEST_PLACES = -9;
    private static final int MOST_PLACES = 6;
    private static final long ONE = 1000000L;
    private static final long[] TENS = {
        1L, 10L, 100L, 1000L, 10000L, 100000L, 1000000L, 10000000L, 100000000L, 1000000000L,
        10000000000L, 100000000000L, 1000000000000L, 10000000000000L, 100000000000000L,
        1000000000000000L, 10000000000000000L
    };

    private final Taxonomy taxonomy;
    private final Report report;
    private final Review review;

    public FactBinder() {
        taxonomy = new Taxonomy();
        report = new Report();
        review = new Review(taxonomy, report);
    }

    public boolean refer(int a, int b) {
        boolean accepted = taxonomy.documents.link(a, b);
        if (accepted) {
            review.stale = true;
        }
        return accepted;
    }

    public boolean enter(int d) {
        boolean accepted = taxonomy.documents.addEntry(d);
        if (accepted) {
            review.stale = true;
        }
        return accepted;
    }

    public int concept(int document, int type, int balance, int period) {
        return taxonomy.addConcept(document, type, balance, period);
    }

    public boolean setting(int role, int priority, boolean prohibits) {
        if (!within(role, 0, ROLES - 1) || !within(priority, 0, 9)) {
            return false;
        }
        taxonomy.setting = new Setting(role, priority, prohibits);
        return true;
    }

    public int arc(int document, int sort, int from, int to, int n) {
        int number = taxonomy.addArc(document, sort, from, to, n);
        if (number != REFUSED) {
            review.stale = true;
        }
        return number;
    }

    public int context(int entity, int start, int end, int scene) {
        return report.addContext(entity, start, end, scene);
    }

    public int unit(int a, int b, int c) {
        return report.addUnit(a, b, c);
    }

    public boolean write(char c) {
        return report.numeral.append(c);
    }

    public int fact(int concept, int context, int unit, int mode, int k) {
        if (!taxonomy.hasConcept(concept)) {
            return REFUSED;
        }
        boolean isText = taxonomy.concepts[concept].type == TEXT;
        int number = report.addFact(concept, isText, context, unit, mode, k);
        if (number != REFUSED) {
            review.stale = true;
        }
        return number;
    }

    public boolean discovered(int d) {
        return taxonomy.documents.isReached(d);
    }

    public boolean left(int a) {
        if (!taxonomy.hasArc(a)) {
            return false;
        }
        review.refresh();
        return review.arcLeft[a];
    }

    public boolean sameContext(int a, int b) {
        return report.hasContext(a) && report.hasContext(b)
                && report.contexts[a].matches(report.contexts[b]);
    }

    public boolean sameUnit(int a, int b) {
        return report.hasUnit(a) && report.hasUnit(b)
                && Unit.areSame(report.units[a], report.units[b]);
    }

    public long value(int f) {
        return report.hasFact(f) ? report.facts[f].amount : 0L;
    }

    public int places(int f) {
        return report.hasFact(f) ? report.facts[f].accuratePlaces : NO_PLACES;
    }

    public long rounded(int f) {
        return report.hasFact(f) ? report.facts[f].roundedAmount : 0L;
    }

    public long sum(int role, int f) {
        if (!within(role, 0, ROLES - 1) || !report.hasFact(f)) {
            return 0L;
        }
        review.refresh();
        review.gatherParts(role, f);
        return review.total;
    }

    public int problems() {
        review.refresh();
        return review.foundCount;
    }

    public int problem(int k) {
        review.refresh();
        return within(k, 0, review.foundCount - 1) ? review.found[k] : -1;
    }

    private static boolean within(int number, int lowest, int highest) {
        return number >= lowest && number <= highest;
    }

    private static boolean isDigit(char c) {
        return c >= '0' && c <= '9';
    }

    private static long tenTo(int exponent) {
        return within(exponent, 0, TENS.length - 1) ? TENS[exponent] : 1L;
    }

    /** How many digits a number from 0 up has; 0 has none. */
    private static int countDigits(long number) {
        int digits = 0;
        while (digits < TENS.length && TENS[digits] <= number) {
            digits++;
        }
        return digits;
    }

    /** The multiple of step, which is one of TENS, that is nearest to amount; of two the even. */
    private static long roundTo(long amount, long step) {
        if (step <= 0L) {
            return amount;
        }
        long multiple = Math.floorDiv(amount, step);
        long twiceRest = 2L * (amount - multiple * step);
        boolean isOdd = (multiple & 1L) != 0L;
        if (twiceRest > step || (twiceRest == step && isOdd)) {
            multiple++;
        }
        return multiple * step;
    }

    /** Which documents refer to which, and which of them belong to the report. */
    private static final class Documents {
        // Bit b of referred[a]: a refers to b. The other sets are bits by document too.
        private final int[] referred = new int[DOCUMENTS];
        private int entries;
        private int reached;

        private static boolean exists(int d) {
            return within(d, 0, DOCUMENTS - 1);
        }

        private boolean link(int a, int b) {
            if (!exists(a) || !exists(b) || (referred[a] >> b & 1) != 0) {
                return false;
            }
            referred[a] |= 1 << b;
            spread();
            return true;
        }

        private boolean addEntry(int d) {
            if (!exists(d) || (entries >> d & 1) != 0) {
                return false;
            }
            entries |= 1 << d;
            reached |= 1 << d;
            spread();
            return true;
        }

        private boolean isReached(int d) {
            return within(d, 0, DOCUMENTS - 1) && (reached >> d & 1) != 0;
        }

        // A shortest way to a document has fewer steps than there are documents.
        private void spread() {
            for (int round = 1; round < DOCUMENTS; round++) {
                for (int d = 0; d < DOCUMENTS; d++) {
                    if (isReached(d)) {
                        reached |= referred[d];
                    }
                }
            }
        }
    }

    private static final class Concept {
        private final int document;
        private final int type;
        private final int balance;
        private final int period;

        private Concept(int document, int type, int balance, int period) {
            this.document = document;
            this.type = type;
            this.balance = balance;
            this.period = period;
        }
    }

    /** What an arc gets beside its own arguments. */
    private static final class Setting {
        private final int role;
        private final int priority;
        private final boolean prohibits;

        private Setting(int role, int priority, boolean prohibits) {
            this.role = role;
            this.priority = priority;
            this.prohibits = prohibits;
        }
    }

    private static final class Arc {
        private final int document;
        private final int sort;
        private final int from;
        private final int to;
        private final int n;
        private final Setting setting;

        private Arc(int document, int sort, int from, int to, int n, Setting setting) {
            this.document = document;
            this.sort = sort;
            this.from = from;
            this.to = to;
            this.n = n;
            this.setting = setting;
        }

        private boolean isAlike(Arc other) {
            return setting.role == other.setting.role && sort == other.sort
                    && from == other.from && to == other.to && n == other.n;
        }

        private boolean isIn(int role, int wantedSort) {
            return setting.role == role && sort == wantedSort;
        }
    }

    /** The documents with the concepts and arcs that lie in them. */
    private static final class Taxonomy {
        private final Documents documents = new Documents();
        private final Concept[] concepts = new Concept[MOST_CONCEPTS];
        private int conceptCount;
        private final Arc[] arcs = new Arc[MOST_ARCS];
        private int arcCount;
        private Setting setting = new Setting(0, 0, false);

        private boolean hasConcept(int c) {
            return within(c, 0, conceptCount - 1);
        }

        private boolean hasArc(int a) {
            return within(a, 0, arcCount - 1);
        }

        private int addConcept(int document, int type, int balance, int period) {
            boolean isSound = Documents.exists(document) && within(type, TEXT, MONEY)
                    && within(balance, 0, type == MONEY ? 2 : 0) && within(period, 0, 1);
            if (!isSound || conceptCount >= MOST_CONCEPTS) {
                return REFUSED;
            }
            concepts[conceptCount] = new Concept(document, type, balance, period);
            return conceptCount++;
        }

        private int addArc(int document, int sort, int from, int to, int n) {
            boolean isSound = Documents.exists(document) && within(sort, SUM, TREE)
                    && hasConcept(from) && hasConcept(to) && within(n, -90, 90) && n != 0;
            if (!isSound || arcCount >= MOST_ARCS) {
                return REFUSED;
            }
            arcs[arcCount] = new Arc(document, sort, from, to, n, setting);
            return arcCount++;
        }

        private boolean isKnown(int concept) {
            return hasConcept(concept) && documents.isReached(concepts[concept].document);
        }

        private boolean doesCount(Arc arc) {
            return documents.isReached(arc.document) && isKnown(arc.from) && isKnown(arc.to);
        }

        /** Whether arc b keeps arc a from being left, if both count. */
        private boolean beats(int b, int a) {
            if (b == a || !arcs[a].isAlike(arcs[b])) {
                return false;
            }
            Setting ours = arcs[a].setting;
            Setting theirs = arcs[b].setting;
            if (theirs.priority != ours.priority) {
                return theirs.priority > ours.priority;
            }
            return theirs.prohibits || b < a;
        }

        private boolean hasWrongSign(Arc arc) {
            int balanceFrom = concepts[arc.from].balance;
            int balanceTo = concepts[arc.to].balance;
            if (balanceFrom == 0 || balanceTo == 0) {
                return false;
            }
            return balanceFrom == balanceTo ? arc.n < 0 : arc.n > 0;
        }
    }

    private static final class Context {
        private final int entity;
        private final int start;
        private final int end;
        private final int scene;

        private Context(int entity, int start, int end, int scene) {
            this.entity = entity;
            this.start = start;
            this.end = end;
            this.scene = scene;
        }

        private static boolean isDay(int day) {
            return within(day, 0, 9999);
        }

        // An instant's start is no day, so start and end together tell the kind of period too.
        private boolean matches(Context other) {
            return entity == other.entity && scene == other.scene
                    && start == other.start && end == other.end;
        }

        private int periodKind() {
            return start == NO_START ? 0 : 1;
        }
    }

    private static final class Unit {
        private final int first;
        private final int second;
        private final int below;

        private Unit(int first, int second, int below) {
            this.first = first;
            this.second = second;
            this.below = below;
        }

        /** Whether two units are equal or both none, which is null. */
        private static boolean areSame(Unit a, Unit b) {
            if (a == null || b == null) {
                return a == null && b == null;
            }
            boolean sameOrder = a.first == b.first && a.second == b.second;
            boolean swapped = a.first == b.second && a.second == b.first;
            return (sameOrder || swapped) && a.below == b.below;
        }

        private boolean isCurrency() {
            return first >= FIRST_CURRENCY && second == 0 && below == 0;
        }
    }

    /** The characters that are written for the next fact. */
    private static final class Numeral {
        private final char[] text = new char[MOST_WRITTEN];
        private int length;

        private boolean append(char c) {
            boolean isSound = isDigit(c) || c == '.' || c == '+' || c == '-';
            if (!isSound || length >= MOST_WRITTEN) {
                return false;
            }
            text[length] = c;
            length++;
            return true;
        }

        private boolean isNumber() {
            int at = hasSign() ? 1 : 0;
            int wholeDigits = digitsFrom(at);
            at += wholeDigits;
            int pointDigits = 0;
            if (at < length && text[at] == '.') {
                pointDigits = digitsFrom(at + 1);
                at += 1 + pointDigits;
            }
            return at == length && wholeDigits <= 9 && pointDigits <= MOST_PLACES
                    && wholeDigits + pointDigits > 0;
        }

        private boolean hasSign() {
            return length > 0 && (text[0] == '+' || text[0] == '-');
        }

        private int digitsFrom(int start) {
            int at = start;
            while (at < length && isDigit(text[at])) {
                at++;
            }
            return at - start;
        }

        /** What is written, which is a number, in millionths. */
        private long inMillionths() {
            long digits = 0L;
            int missing = MOST_PLACES;
            boolean behindPoint = false;
            for (int at = hasSign() ? 1 : 0; at < length; at++) {
                if (text[at] == '.') {
                    behindPoint = true;
                } else {
                    digits = digits * 10L + (text[at] - '0');
                    missing -= behindPoint ? 1 : 0;
                }
            }
            long magnitude = digits * tenTo(missing);
            return length > 0 && text[0] == '-' ? -magnitude : magnitude;
        }
    }

    private static final class Fact {
        private final int concept;
        private final Context context;
        // Null if the fact has none.
        private final Unit unit;
        private final int mode;
        private final int k;
        private final long amount;
        private final int accuratePlaces;
        private final long roundedAmount;

        private Fact(int concept, Context context, Unit unit, int mode, int k, long amount) {
            this.concept = concept;
            this.context = context;
            this.unit = unit;
            this.mode = mode;
            this.k = k;
            this.amount = amount;
            accuratePlaces = findPlaces(mode, k, amount);
            roundedAmount = roundTo(amount, tenTo(MOST_PLACES - accuratePlaces));
        }

        private static boolean isAccuracy(int mode, int k) {
            if (mode == DECIMALS) {
                return within(k, FEWEST_PLACES, MOST_PLACES);
            }
            if (mode == PRECISION) {
                return within(k, 0, 15);
            }
            return mode == NO_ACCURACY || mode == EXACT;
        }

        private static int findPlaces(int mode, int k, long amount) {
            if (mode == DECIMALS) {
                return k;
            }
            if (mode != PRECISION || amount == 0L) {
                return MOST_PLACES;
            }
            long magnitude = amount < 0L ? -amount : amount;
            long whole = magnitude / ONE;
            int shift = whole != 0L ? -countDigits(whole) : MOST_PLACES - countDigits(magnitude);
            return Math.max(FEWEST_PLACES, Math.min(MOST_PLACES, k + shift));
        }

        private boolean isVague() {
            return mode == PRECISION && k == 0;
        }

        private boolean standsWith(Fact other) {
            return context.matches(other.context) && Unit.areSame(unit, other.unit);
        }

        private boolean hasUnitFor(int type) {
            if (unit == null || type == TEXT) {
                return unit == null && type == TEXT;
            }
            return type != MONEY || unit.isCurrency();
        }

        /** The kind of the one problem that the fact has by itself, or NO_FAULT. */
        private int findFault(Concept of, boolean isKnown) {
            if (!isKnown) {
                return UNKNOWN;
            }
            if (!hasUnitFor(of.type)) {
                return WRONG_UNIT;
            }
            if (context.periodKind() != of.period) {
                return WRONG_PERIOD;
            }
            boolean wantsAccuracy = of.type != TEXT;
            boolean hasAccuracy = mode != NO_ACCURACY;
            return wantsAccuracy != hasAccuracy ? WRONG_ACCURACY : NO_FAULT;
        }
    }

    /** The facts, with the contexts and units that they may have. */
    private static final class Report {
        private final Context[] contexts = new Context[MOST_CONTEXTS];
        private int contextCount;
        private final Unit[] units = new Unit[MOST_UNITS];
        private int unitCount;
        private final Fact[] facts = new Fact[MOST_FACTS];
        private int factCount;
        private final Numeral numeral = new Numeral();

        private boolean hasContext(int c) {
            return within(c, 0, contextCount - 1);
        }

        private boolean hasUnit(int u) {
            return within(u, 0, unitCount - 1);
        }

        private boolean hasFact(int f) {
            return within(f, 0, factCount - 1);
        }

        private int addContext(int entity, int start, int end, int scene) {
            boolean isPeriod = start == NO_START || (Context.isDay(start) && start < end);
            boolean isSound = within(entity, 0, 9) && within(scene, 0, 9)
                    && isPeriod && Context.isDay(end);
            if (!isSound || contextCount >= MOST_CONTEXTS) {
                return REFUSED;
            }
            contexts[contextCount] = new Context(entity, start, end, scene);
            return contextCount++;
        }

        private int addUnit(int a, int b, int c) {
            boolean isSound = within(a, 1, 9) && within(b, 0, 9) && within(c, 0, 9)
                    && (c == 0 || (c != a && c != b));
            if (!isSound || unitCount >= MOST_UNITS) {
                return REFUSED;
            }
            units[unitCount] = new Unit(a, b, c);
            return unitCount++;
        }

        private int addFact(int concept, boolean isText, int context, int unit, int mode, int k) {
            boolean isSound = hasContext(context) && (unit == NO_UNIT || hasUnit(unit))
                    && Fact.isAccuracy(mode, k) && (isText || numeral.isNumber());
            if (!isSound || factCount >= MOST_FACTS) {
                return REFUSED;
            }
            long amount = isText ? 0L : numeral.inMillionths();
            Unit chosen = unit == NO_UNIT ? null : units[unit];
            facts[factCount] = new Fact(concept, contexts[context], chosen, mode, k, amount);
            numeral.length = 0;
            return factCount++;
        }

        private boolean areTwins(int f, int g) {
            return f != g && facts[f].concept == facts[g].concept
                    && facts[f].standsWith(facts[g]);
        }

        private int lowestTwin(int f) {
            for (int g = 0; g < factCount; g++) {
                if (areTwins(f, g)) {
                    return g;
                }
            }
            return NO_TWIN;
        }
    }

    /** What the checks find; worked out anew only after something has changed. */
    private static final class Review {
        private final Taxonomy taxonomy;
        private final Report report;
        private final boolean[] arcCounts = new boolean[MOST_ARCS];
        private final boolean[] arcLeft = new boolean[MOST_ARCS];
        private final int[] faults = new int[MOST_FACTS];
        private final int[] twins = new int[MOST_FACTS];
        // Bit d of ways[c]: a way of tree arcs leads from concept c to concept d.
        private final int[] ways = new int[MOST_CONCEPTS];
        private final int[] found = new int[MOST_PROBLEMS];
        private int foundCount;
        private boolean stale;
        // What gatherParts has found last.
        private int parts;
        private long total;
        private boolean hasVaguePart;

        private Review(Taxonomy taxonomy, Report report) {
            this.taxonomy = taxonomy;
            this.report = report;
        }

        // The order of the checks is the order of the problems' numbers.
        private void refresh() {
            if (!stale) {
                return;
            }
            stale = false;
            foundCount = 0;
            markArcs();
            markFacts();
            tellFaults();
            tellTwins();
            tellLooseArcs();
            tellSigns();
            tellCycles();
            tellTotals();
        }

        private void tell(int kind, int x, int y) {
            if (foundCount < MOST_PROBLEMS) {
                found[foundCount] = kind * 10000 + 100 * x + y;
                foundCount++;
            }
        }

        private void markArcs() {
            for (int a = 0; a < taxonomy.arcCount; a++) {
                arcCounts[a] = taxonomy.doesCount(taxonomy.arcs[a]);
            }
            for (int a = 0; a < taxonomy.arcCount; a++) {
                arcLeft[a] = isLeft(a);
            }
        }

        private boolean isLeft(int a) {
            if (!arcCounts[a] || taxonomy.arcs[a].setting.prohibits) {
                return false;
            }
            for (int b = 0; b < taxonomy.arcCount; b++) {
                if (arcCounts[b] && taxonomy.beats(b, a)) {
                    return false;
                }
            }
            return true;
        }

        private void markFacts() {
            for (int f = 0; f < report.factCount; f++) {
                int concept = report.facts[f].concept;
                boolean isKnown = taxonomy.isKnown(concept);
                faults[f] = report.facts[f].findFault(taxonomy.concepts[concept], isKnown);
                twins[f] = report.lowestTwin(f);
            }
        }

        private void tellFaults() {
            for (int kind = UNKNOWN; kind <= WRONG_ACCURACY; kind++) {
                for (int f = 0; f < report.factCount; f++) {
                    if (faults[f] == kind) {
                        tell(kind, f, 0);
                    }
                }
            }
        }

        private void tellTwins() {
            for (int f = 0; f < report.factCount; f++) {
                if (twins[f] != NO_TWIN && twins[f] < f) {
                    tell(TWIN, f, twins[f]);
                }
            }
        }

        private void tellLooseArcs() {
            for (int a = 0; a < taxonomy.arcCount; a++) {
                if (!arcCounts[a] && taxonomy.documents.isReached(taxonomy.arcs[a].document)) {
                    tell(LOOSE, a, 0);
                }
            }
        }

        private void tellSigns() {
            for (int a = 0; a < taxonomy.arcCount; a++) {
                Arc arc = taxonomy.arcs[a];
                if (arcLeft[a] && arc.sort == SUM && taxonomy.hasWrongSign(arc)) {
                    tell(SIGN, a, 0);
                }
            }
        }

        private void tellCycles() {
            for (int role = 0; role < ROLES; role++) {
                findWays(role);
                for (int c = 0; c < taxonomy.conceptCount; c++) {
                    if ((ways[c] >> c & 1) != 0) {
                        tell(CYCLE, role, c);
                    }
                }
            }
        }

        private void findWays(int role) {
            for (int c = 0; c < MOST_CONCEPTS; c++) {
                ways[c] = 0;
            }
            for (int a = 0; a < taxonomy.arcCount; a++) {
                Arc arc = taxonomy.arcs[a];
                if (arcLeft[a] && arc.isIn(role, TREE)) {
                    ways[arc.from] |= 1 << arc.to;
                }
            }
            joinWays();
        }

        // After the round of a concept, ways that pass through it and earlier ones are there.
        private void joinWays() {
            for (int through = 0; through < taxonomy.conceptCount; through++) {
                for (int c = 0; c < taxonomy.conceptCount; c++) {
                    if ((ways[c] >> through & 1) != 0) {
                        ways[c] |= ways[through];
                    }
                }
            }
        }

        private void tellTotals() {
            for (int role = 0; role < ROLES; role++) {
                for (int f = 0; f < report.factCount; f++) {
                    gatherParts(role, f);
                    if (parts > 0 && !agrees(report.facts[f])) {
                        tell(TOTAL, role, f);
                    }
                }
            }
        }

        private boolean agrees(Fact fact) {
            if (fact.isVague() || hasVaguePart) {
                return false;
            }
            // The weights are tenths, so the sum stands ten times as high as the fact.
            long step = tenTo(MOST_PLACES + 1 - fact.accuratePlaces);
            return roundTo(total, step) == 10L * fact.roundedAmount;
        }

        /** Adds up the parts of fact f in the role; no parts and 0 if it is not bound there. */
        private void gatherParts(int role, int f) {
            parts = 0;
            total = 0L;
            hasVaguePart = false;
            if (!canAdd(f)) {
                return;
            }
            Fact whole = report.facts[f];
            for (int a = 0; a < taxonomy.arcCount; a++) {
                Arc arc = taxonomy.arcs[a];
                if (arcLeft[a] && arc.isIn(role, SUM) && arc.from == whole.concept) {
                    gatherPartsOf(arc, whole);
                }
            }
        }

        private void gatherPartsOf(Arc arc, Fact whole) {
            for (int g = 0; g < report.factCount; g++) {
                Fact part = report.facts[g];
                if (part.concept == arc.to && canAdd(g) && part.standsWith(whole)) {
                    parts++;
                    total += arc.n * part.roundedAmount;
                    hasVaguePart = hasVaguePart || part.isVague();
                }
            }
        }

        /** Whether fact f is usable and has no twin. */
        private boolean canAdd(int f) {
            boolean isText = taxonomy.concepts[report.facts[f].concept].type == TEXT;
            return !isText && faults[f] == NO_FAULT && twins[f] == NO_TWIN;
        }
    }
}
