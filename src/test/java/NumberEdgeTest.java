import java.math.BigDecimal;

/** The edges of what is written, of facts and of their places, each sentence with a test of its own. */
public final class NumberEdgeTest {
    private static final int NONE = 0;
    private static final int DECIMALS = 1;
    private static final int PRECISION = 2;
    private static final int EXACT = 3;
    private static final int NUMBER_CONCEPT = 0;
    private static final int TEXT_CONCEPT = 1;
    private static final int MONEY_CONCEPT = 2;
    private static final Check CHECK = new Check("NumberEdgeTest");

    public static void main(String[] args) {
        charactersBesideTheOnesAllowed();
        twentyCharactersAreWritten();
        wholeDigitsAndDigitsBehindThePoint();
        aSignStandsFirstAndOnce();
        anEmptyTextIsNoNumber();
        theGreatestAndTheLeastNumbers();
        aTextFactHasTheValue0();
        modesAre0To3();
        decimalsAreFromMinus9To6();
        precisionIsFrom0To15();
        kIsNotLookedAtForNoneAndExact();
        atMost20Facts();
        whatIsWrittenStaysAfterEveryRefusal();
        precisionOf0AndOfTheLeastNumber();
        placesByTheDigitsOfTheWholePart();
        placesByTheZerosBehindThePoint();
        roundingBesideEveryHalf();
        factsThatAreNotThere();
        CHECK.finish();
    }

    /** A number, a text and a money concept, one instant, and the units 1 and 6. */
    private static FactBinder ready() {
        FactBinder x = Check.withNumberConcept();
        x.concept(0, 0, 0, 0);
        x.concept(0, 2, 0, 0);
        return x;
    }

    private static int numberFact(FactBinder x, String text, int mode, int k) {
        return CHECK.fact(x, text, NUMBER_CONCEPT, 0, 0, mode, k);
    }

    private static FactBinder withFact(String text, int mode, int k) {
        FactBinder x = ready();
        CHECK.due("fact of " + text, 0, numberFact(x, text, mode, k));
        return x;
    }

    /** How many characters there is still room for; writes them. */
    private static int roomLeft(FactBinder x) {
        int room = 0;
        while (room < 30 && x.write('0')) {
            room++;
        }
        return room;
    }

    /** "false, refused, if ... c is not a digit, a point, + or -" */
    private static void charactersBesideTheOnesAllowed() {
        char[] allowed = {'0', '9', '.', '+', '-'};
        char[] refused = {'/', ':', ',', '*', ' ', 'a', '\0', '\uffff', '\u0130', '\u2212', '\u0660', '\uff11'};
        FactBinder x = ready();
        for (char c : allowed) {
            for (char other : refused) {
                CHECK.no("write((char) " + (int) other + ")", x.write(other));
            }
            CHECK.yes("write " + c, x.write(c));
        }
        CHECK.due("refused ones take no room", 15, roomLeft(x));
    }

    /** "Appends a character to what is written; false, refused, if 20 are there" */
    private static void twentyCharactersAreWritten() {
        FactBinder x = ready();
        for (int round = 0; round < 3; round++) {
            CHECK.due("characters that are written", 20, roomLeft(x));
            CHECK.no("one more digit", x.write('1'));
            CHECK.no("one more point", x.write('.'));
            CHECK.no("one that is never allowed", x.write('x'));
            CHECK.due("twenty zeros are no number", -1, x.fact(NUMBER_CONCEPT, 0, 0, EXACT, 0));
            CHECK.due("a text takes them", round, x.fact(TEXT_CONCEPT, 0, -1, NONE, 0));
        }
        CHECK.due("after it there is a number again", 3, numberFact(x, "-123456789.654321", EXACT, 0));
        CHECK.due("value", -123456789654321L, x.value(3));
    }

    /** "0 .. 9 digits, and optionally a point and 0 .. 6 digits, with at least one digit in all" */
    private static void wholeDigitsAndDigitsBehindThePoint() {
        String[] signs = {"", "+", "-"};
        for (String sign : signs) {
            for (int whole = 0; whole <= 10; whole++) {
                dueNumber(whole >= 1 && whole <= 9, sign + "1234567891".substring(0, whole));
                for (int behind = 0; behind <= 7; behind++) {
                    boolean isDue = whole <= 9 && behind <= 6 && whole + behind >= 1;
                    dueNumber(isDue, sign + "9876543219".substring(0, whole) + "." + "1020304".substring(0, behind));
                    dueNumber(isDue, sign + "0000000000".substring(0, whole) + "." + "0000000".substring(0, behind));
                }
            }
        }
    }

    private static void dueNumber(boolean isNumber, String text) {
        int[] concepts = {NUMBER_CONCEPT, MONEY_CONCEPT};
        for (int concept : concepts) {
            FactBinder x = ready();
            CHECK.write(x, text);
            CHECK.due("fact of '" + text + "'", isNumber ? 0 : -1, x.fact(concept, 0, 1, EXACT, 0));
            long want = isNumber ? new BigDecimal(text.replaceAll("[.]$", "")).movePointRight(6).longValueExact() : 0;
            CHECK.due("value of '" + text + "'", want, x.value(0));
            CHECK.due("what is left written of '" + text + "'", isNumber ? 20 : 20 - text.length(), roomLeft(x));
        }
    }

    /** "an optional + or -" */
    private static void aSignStandsFirstAndOnce() {
        String[] numbers = {"+1", "-1", "1", "+.5", "-5.", "+0", "-0", "-0.0"};
        String[] others = {
            "++1", "--1", "+-1", "-+1", "1+", "1-", "1+1", "1-1", ".+5", ".-5", "5.+", "5.-", "+1+", "-.5-", "1.+5",
            "1..", "..1", "1.1.", ".1.1", ".", "+", "-", "+.", "-.", "+-", "-+."
        };
        for (String text : numbers) {
            dueNumber(true, text);
        }
        for (String text : others) {
            dueNumber(false, text);
        }
    }

    /** "the concept's type is not 0 and what is written is no number": nothing is written */
    private static void anEmptyTextIsNoNumber() {
        FactBinder x = ready();
        CHECK.due("a number of nothing", -1, x.fact(NUMBER_CONCEPT, 0, 0, EXACT, 0));
        CHECK.due("money of nothing", -1, x.fact(MONEY_CONCEPT, 0, 1, EXACT, 0));
        CHECK.due("a text of nothing", 0, x.fact(TEXT_CONCEPT, 0, -1, NONE, 0));
        CHECK.due("a number", 1, numberFact(x, "4", EXACT, 0));
        CHECK.due("which is empty then", -1, x.fact(NUMBER_CONCEPT, 0, 0, EXACT, 0));
        CHECK.due("the refused ones are not there", 99, x.places(2));
    }

    /** "They are told in MILLIONTHS." */
    private static void theGreatestAndTheLeastNumbers() {
        CHECK.due("the greatest", 999999999999999L, withFact("999999999.999999", EXACT, 0).value(0));
        CHECK.due("the least", -999999999999999L, withFact("-999999999.999999", EXACT, 0).value(0));
        CHECK.due("the least above 0", 1, withFact(".000001", EXACT, 0).value(0));
        CHECK.due("the greatest below 0", -1, withFact("-.000001", EXACT, 0).value(0));
        for (int at = 1; at <= 6; at++) {
            String text = "." + "000000".substring(0, at - 1) + "7";
            CHECK.due(text, 7 * powerOfTen(6 - at), withFact(text, EXACT, 0).value(0));
        }
    }

    private static long powerOfTen(int exponent) {
        return BigDecimal.ONE.movePointRight(exponent).longValueExact();
    }

    /** "The fact of a concept of type 0 has the value 0, whatever is written" */
    private static void aTextFactHasTheValue0() {
        String[] texts = {"", "0", "5", "-999999999.999999", "+-..", "00000000000000000000"};
        for (String text : texts) {
            FactBinder x = ready();
            CHECK.due("text fact of '" + text + "'", 0, CHECK.fact(x, text, TEXT_CONCEPT, 0, -1, DECIMALS, -9));
            CHECK.due("its value", 0, x.value(0));
            CHECK.due("its rounded value", 0, x.rounded(0));
            CHECK.due("its places", -9, x.places(0));
            CHECK.due("what is written is empty then", 20, roomLeft(x));
        }
        int[] modes = {NONE, PRECISION, EXACT};
        for (int mode : modes) {
            FactBinder x = ready();
            CHECK.fact(x, "5", TEXT_CONCEPT, 0, -1, mode, 1);
            CHECK.due("places of a text, mode " + mode, 6, x.places(0));
        }
    }

    private static int factOfMode(int concept, int mode, int k) {
        FactBinder x = ready();
        x.write('5');
        return x.fact(concept, 0, 0, mode, k);
    }

    /** "Accuracy: mode 0 none, 1 DECIMALS k, 2 PRECISION k, 3 EXACT"; "-1, refused, if ... mode ..." */
    private static void modesAre0To3() {
        CHECK.numbered("the mode of a number", 0, 3, mode -> factOfMode(NUMBER_CONCEPT, mode, 0));
        CHECK.numbered("the mode of a text", 0, 3, mode -> factOfMode(TEXT_CONCEPT, mode, 0));
        CHECK.numbered("the mode of money", 0, 3, mode -> factOfMode(MONEY_CONCEPT, mode, 0));
    }

    /** "DECIMALS d (-9 .. 6)"; "Its PLACES are d for DECIMALS" */
    private static void decimalsAreFromMinus9To6() {
        CHECK.numbered("the decimals of a number", -9, 6, k -> factOfMode(NUMBER_CONCEPT, DECIMALS, k));
        CHECK.numbered("the decimals of a text", -9, 6, k -> factOfMode(TEXT_CONCEPT, DECIMALS, k));
        String[] texts = {"0", ".000001", "-1", "999999999.999999"};
        for (String text : texts) {
            for (int d = -9; d <= 6; d++) {
                CHECK.due("places of " + text + " with DECIMALS " + d, d, withFact(text, DECIMALS, d).places(0));
            }
        }
    }

    /** "PRECISION p (0 .. 15)" */
    private static void precisionIsFrom0To15() {
        CHECK.numbered("the precision of a number", 0, 15, k -> factOfMode(NUMBER_CONCEPT, PRECISION, k));
        CHECK.numbered("the precision of a text", 0, 15, k -> factOfMode(TEXT_CONCEPT, PRECISION, k));
    }

    /** "k is not looked at for 0 and 3"; PLACES are "6 if it is exact ... and for no accuracy" */
    private static void kIsNotLookedAtForNoneAndExact() {
        int[] all = {Integer.MIN_VALUE, -10, -9, -1, 0, 6, 7, 15, 16, Integer.MAX_VALUE};
        for (int k : all) {
            CHECK.due("no accuracy, k " + k, 6, withFact("123.456789", NONE, k).places(0));
            CHECK.due("no accuracy, k " + k, 123456789, withFact("123.456789", NONE, k).rounded(0));
            CHECK.due("EXACT, k " + k, 6, withFact("-123.456789", EXACT, k).places(0));
            CHECK.due("EXACT, k " + k, -123456789, withFact("-123.456789", EXACT, k).rounded(0));
        }
    }

    /** "FACTS, at most 20"; "-1, refused (what is written stays), if ... there are 20" */
    private static void atMost20Facts() {
        FactBinder x = ready();
        for (int f = 0; f < 20; f++) {
            CHECK.due("places(" + f + ") before it is there", 99, x.places(f));
            CHECK.due("fact " + f, f, numberFact(x, f + ".5", DECIMALS, f % 16 - 9));
        }
        CHECK.write(x, "77");
        for (int again = 0; again < 3; again++) {
            CHECK.due("a 21st number", -1, x.fact(NUMBER_CONCEPT, 0, 0, EXACT, 0));
            CHECK.due("a 21st text", -1, x.fact(TEXT_CONCEPT, 0, -1, NONE, 0));
            CHECK.due("a 21st that is wrong too", -1, x.fact(3, 0, 0, EXACT, 0));
        }
        CHECK.due("what is written stays", 18, roomLeft(x));
        for (int f = 0; f < 20; f++) {
            CHECK.due("value(" + f + ")", f * 1000000L + 500000L, x.value(f));
            CHECK.due("places(" + f + ")", f % 16 - 9, x.places(f));
        }
        CHECK.range("a fact that is there", 0, 19, f -> x.places(f) != 99);
        CHECK.due("twins of the first", 19, x.problems());
    }

    /** "-1, refused (what is written stays), if concept, context or unit does not exist, ..." */
    private static void whatIsWrittenStaysAfterEveryRefusal() {
        int[][] wrong = {
            {-1, 0, 0, 3, 0}, {3, 0, 0, 3, 0}, {0, -1, 0, 3, 0}, {0, 1, 0, 3, 0}, {0, 0, -2, 3, 0}, {0, 0, 2, 3, 0},
            {0, 0, 0, -1, 0}, {0, 0, 0, 4, 0}, {0, 0, 0, 1, -10}, {0, 0, 0, 1, 7}, {0, 0, 0, 2, -1}, {0, 0, 0, 2, 16},
            {1, 1, -1, 0, 0}, {1, 0, 2, 0, 0}, {1, 0, -1, 1, 7}, {2, 0, 0, 2, 16}
        };
        for (int[] w : wrong) {
            FactBinder x = ready();
            CHECK.write(x, "-42");
            CHECK.due("a wrong fact", -1, x.fact(w[0], w[1], w[2], w[3], w[4]));
            CHECK.due("the first fact after it", 0, x.fact(NUMBER_CONCEPT, 0, 0, EXACT, 0));
            CHECK.due("has what was written", -42000000, x.value(0));
            CHECK.due("once", -1, x.fact(NUMBER_CONCEPT, 0, 0, EXACT, 0));
            CHECK.problems("no other fact is there", x);
        }
        FactBinder y = ready();
        CHECK.write(y, "-.");
        CHECK.due("no number", -1, y.fact(NUMBER_CONCEPT, 0, 0, EXACT, 0));
        CHECK.due("no number", -1, y.fact(MONEY_CONCEPT, 0, 1, EXACT, 0));
        CHECK.due("one when it is gone on with", 0, numberFact(y, "5", EXACT, 0));
        CHECK.due("value", -500000, y.value(0));
    }

    /** "6 ... for PRECISION with a value 0"; "else, for PRECISION p (0 too)" */
    private static void precisionOf0AndOfTheLeastNumber() {
        String[] zeros = {"0", "-0", "+.0", "000000000.000000"};
        for (String zero : zeros) {
            for (int p = 0; p <= 15; p++) {
                CHECK.due("places of " + zero + " with PRECISION " + p, 6, withFact(zero, PRECISION, p).places(0));
            }
        }
        CHECK.due("the least number above 0", 5, withFact(".000001", PRECISION, 0).places(0));
        CHECK.due("the greatest below 0", 5, withFact("-.000001", PRECISION, 0).places(0));
    }

    private static void duePlaces(int shift, String text) {
        for (int p = 0; p <= 15; p++) {
            int want = Math.min(6, p + shift);
            CHECK.due("places of " + text + " with PRECISION " + p, want, withFact(text, PRECISION, p).places(0));
            CHECK.due("places of -" + text + " with PRECISION " + p, want, withFact("-" + text, PRECISION, p).places(0));
        }
    }

    /** "p less the number of digits of the whole part ... if that whole part is not 0"; never more than 6, never less than -9 */
    private static void placesByTheDigitsOfTheWholePart() {
        for (int digits = 1; digits <= 9; digits++) {
            duePlaces(-digits, "100000000".substring(0, digits));
            duePlaces(-digits, "100000000".substring(0, digits) + ".000001");
            duePlaces(-digits, "999999999".substring(0, digits) + ".999999");
            duePlaces(-digits, "000000000".substring(digits) + "999999999".substring(0, digits));
        }
        CHECK.due("never less than -9", -9, withFact("999999999.999999", PRECISION, 0).places(0));
        CHECK.due("one more than the least", -8, withFact("999999999.999999", PRECISION, 1).places(0));
        CHECK.due("6 of itself", 6, withFact("999999999", PRECISION, 15).places(0));
        CHECK.due("never more than 6", 6, withFact("99999999", PRECISION, 15).places(0));
        CHECK.due("less than 6", 5, withFact("999999999", PRECISION, 14).places(0));
    }

    /** "if the whole part is 0, p plus the number of zeros that come first behind the point (0.0123 has 1)" */
    private static void placesByTheZerosBehindThePoint() {
        for (int zeros = 0; zeros <= 5; zeros++) {
            String first = "." + "00000".substring(0, zeros);
            duePlaces(zeros, first + "1");
            duePlaces(zeros, "0" + first + "100000".substring(0, 6 - zeros));
            duePlaces(zeros, "000000000" + first + "999999".substring(0, 6 - zeros));
            duePlaces(zeros, first + "900900".substring(0, 6 - zeros));
        }
        duePlaces(0, "0.999999");
        duePlaces(-1, "1.000000");
        duePlaces(-1, "1.000001");
    }

    /** "the multiple of u that is nearest to v; of two that are equally near the one that is an even multiple" */
    private static void roundingBesideEveryHalf() {
        for (int d = -9; d <= 5; d++) {
            long u = powerOfTen(6 - d);
            for (int multiple = 0; multiple <= 3 && multiple * u + u / 2 < powerOfTen(15); multiple++) {
                long half = multiple * u + u / 2;
                dueRounded(multiple * u, half - 1, d);
                dueRounded((multiple + multiple % 2) * u, half, d);
                dueRounded((multiple + 1) * u, half + 1, d);
                dueRounded(multiple * u, multiple * u, d);
            }
        }
        dueRounded(1, 1, 6);
        dueRounded(999999999999999L, 999999999999999L, 6);
        dueRounded(powerOfTen(15), 999999999999999L, 5);
        dueRounded(powerOfTen(15), 999999999999999L, -9);
        dueRounded(0, 499999999999999L, -9);
    }

    /** The same on both sides of 0. */
    private static void dueRounded(long want, long millionths, int d) {
        String text = BigDecimal.valueOf(millionths, 6).toPlainString();
        CHECK.due(text + " to " + d, want, withFact(text, DECIMALS, d).rounded(0));
        CHECK.due("-" + text + " to " + d, -want, withFact("-" + text, DECIMALS, d).rounded(0));
    }

    /** "0 if there is none"; "99 if there is none" */
    private static void factsThatAreNotThere() {
        FactBinder empty = ready();
        CHECK.write(empty, "7");
        CHECK.range("no fact: places(f)", 0, -1, f -> empty.places(f) != 99);
        CHECK.range("no fact: value(f)", 0, -1, f -> empty.value(f) != 0);
        CHECK.range("no fact: rounded(f)", 0, -1, f -> empty.rounded(f) != 0);
        for (int count = 1; count <= 20; count += 19) {
            FactBinder x = ready();
            for (int f = 0; f < count; f++) {
                numberFact(x, "7", DECIMALS, 0);
            }
            CHECK.range(count + " facts: places(f)", 0, count - 1, f -> x.places(f) == 0);
            CHECK.range(count + " facts: places(f), else 99", 0, count - 1, f -> x.places(f) != 99);
            CHECK.range(count + " facts: value(f)", 0, count - 1, f -> x.value(f) == 7000000);
            CHECK.range(count + " facts: value(f), else 0", 0, count - 1, f -> x.value(f) != 0);
            CHECK.range(count + " facts: rounded(f)", 0, count - 1, f -> x.rounded(f) == 7000000);
            CHECK.range(count + " facts: rounded(f), else 0", 0, count - 1, f -> x.rounded(f) != 0);
        }
    }
}
