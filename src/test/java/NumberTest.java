import java.math.BigDecimal;
import java.math.RoundingMode;

/** Promises 9, 10, 15, 16 and 17: write, fact, value, places and rounded. */
public final class NumberTest {
    private static final int MIN = Integer.MIN_VALUE;
    private static final int MAX = Integer.MAX_VALUE;
    private static final int DECIMALS = 1;
    private static final int PRECISION = 2;
    private static final int EXACT = 3;
    private static final Check CHECK = new Check("NumberTest");

    public static void main(String[] args) {
        charactersThatAreWritten();
        atMostTwentyCharacters();
        numbersAndTheirValues();
        textsThatAreNoNumbers();
        factsAreNumbered();
        wrongFactsAreRefused();
        refusedFactKeepsTheText();
        textFactsTakeWhatIsWritten();
        decimalsAreThePlaces();
        placesOfOtherModes();
        placesOfPrecision();
        roundingGoesToTheEven();
        roundingToEveryPlace();
        missingFacts();
        CHECK.finish();
    }

    private static void charactersThatAreWritten() {
        for (int c = 0; c <= 0xffff; c++) {
            boolean isDue = "0123456789.+-".indexOf(c) >= 0;
            boolean got = new FactBinder().write((char) c);
            if (got != isDue || isDue) {
                CHECK.due("write((char) " + c + ")", isDue ? 1 : 0, got ? 1 : 0);
            }
        }
        FactBinder x = Check.withNumberConcept();
        CHECK.write(x, "1");
        CHECK.no("a space", x.write(' '));
        CHECK.no("a comma", x.write(','));
        CHECK.no("a letter", x.write('e'));
        CHECK.write(x, "2");
        x.fact(0, 0, 0, EXACT, 0);
        CHECK.due("refused characters are not there", 12000000, x.value(0));
    }

    private static void atMostTwentyCharacters() {
        FactBinder x = Check.withNumberConcept();
        x.concept(0, 0, 0, 0);
        for (int i = 0; i < 20; i++) {
            CHECK.yes("character " + i, x.write('-'));
        }
        CHECK.no("a 21st character", x.write('1'));
        CHECK.due("a text fact", 0, x.fact(1, 0, -1, 0, 0));
        CHECK.write(x, "00000000000000000000");
        CHECK.no("a 21st digit", x.write('0'));
        CHECK.due("twenty digits are no number", -1, x.fact(0, 0, 0, EXACT, 0));
    }

    private static long valueOf(String text) {
        FactBinder x = Check.withNumberConcept();
        CHECK.write(x, text);
        CHECK.due("fact of " + text, 0, x.fact(0, 0, 0, EXACT, 0));
        return x.value(0);
    }

    private static void numbersAndTheirValues() {
        CHECK.due("0", 0, valueOf("0"));
        CHECK.due("-0", 0, valueOf("-0"));
        CHECK.due("7.", 7000000, valueOf("7."));
        CHECK.due(".5", 500000, valueOf(".5"));
        CHECK.due("-.5", -500000, valueOf("-.5"));
        CHECK.due("+3", 3000000, valueOf("+3"));
        CHECK.due("+0.000001", 1, valueOf("+0.000001"));
        CHECK.due("-.000001", -1, valueOf("-.000001"));
        CHECK.due("12.345678", 12345678, valueOf("12.345678"));
        CHECK.due("12.34", 12340000, valueOf("12.34"));
        CHECK.due("000000012", 12000000, valueOf("000000012"));
        CHECK.due("0.100000", 100000, valueOf("0.100000"));
        CHECK.due("999999999.999999", 999999999999999L, valueOf("999999999.999999"));
        CHECK.due("-999999999.999999", -999999999999999L, valueOf("-999999999.999999"));
        CHECK.due("123456789.", 123456789000000L, valueOf("123456789."));
    }

    private static void textsThatAreNoNumbers() {
        String[] wrong = {
            "", "+", "-", ".", "+.", "-.", "1234567890", "0000000001", "1.1234567", "1.2.3", "1..2",
            "..", "--1", "+-1", "1-", "1+", "1.-2", "-1.5-", ".+1", "-+.", "1.5.", "1+2", "0.0000000"
        };
        for (String text : wrong) {
            FactBinder x = Check.withNumberConcept();
            x.concept(0, 2, 1, 0);
            CHECK.write(x, text);
            CHECK.due("number fact of '" + text + "'", -1, x.fact(0, 0, 0, EXACT, 0));
            CHECK.due("money fact of '" + text + "'", -1, x.fact(1, 0, 1, EXACT, 0));
            CHECK.due("no fact is there", 99, x.places(0));
        }
    }

    private static void factsAreNumbered() {
        FactBinder x = Check.withNumberConcept();
        for (int f = 0; f < 20; f++) {
            CHECK.due("nothing is written", -1, x.fact(0, 0, 0, EXACT, 0));
            x.write((char) ('0' + f % 10));
            CHECK.due("fact", f, x.fact(0, 0, f % 2, EXACT, 0));
        }
        x.write('1');
        CHECK.due("a 21st fact", -1, x.fact(0, 0, 0, EXACT, 0));
        CHECK.due("value(19)", 9000000, x.value(19));
        CHECK.due("value(20)", 0, x.value(20));
        CHECK.due("places(20)", 99, x.places(20));
    }

    private static void wrongFactsAreRefused() {
        FactBinder x = Check.withNumberConcept();
        x.write('1');
        int[][] wrong = {
            {-1, 0, 0, 3, 0}, {1, 0, 0, 3, 0}, {MIN, 0, 0, 3, 0}, {MAX, 0, 0, 3, 0},
            {0, -1, 0, 3, 0}, {0, 1, 0, 3, 0}, {0, MIN, 0, 3, 0}, {0, MAX, 0, 3, 0},
            {0, 0, -2, 3, 0}, {0, 0, 2, 3, 0}, {0, 0, MIN, 3, 0}, {0, 0, MAX, 3, 0},
            {0, 0, 0, -1, 0}, {0, 0, 0, 4, 0}, {0, 0, 0, MIN, 0}, {0, 0, 0, MAX, 0},
            {0, 0, 0, DECIMALS, -10}, {0, 0, 0, DECIMALS, 7}, {0, 0, 0, DECIMALS, MIN},
            {0, 0, 0, DECIMALS, MAX}, {0, 0, 0, PRECISION, -1}, {0, 0, 0, PRECISION, 16},
            {0, 0, 0, PRECISION, MIN}, {0, 0, 0, PRECISION, MAX}
        };
        for (int[] w : wrong) {
            CHECK.due("a wrong fact", -1, x.fact(w[0], w[1], w[2], w[3], w[4]));
        }
        CHECK.due("k is not looked at for EXACT", 0, x.fact(0, 0, 0, EXACT, MAX));
        x.write('1');
        CHECK.due("k is not looked at for none", 1, x.fact(0, 0, -1, 0, MIN));
    }

    private static void refusedFactKeepsTheText() {
        FactBinder x = Check.withNumberConcept();
        CHECK.write(x, "+.");
        CHECK.due("+. is no number", -1, x.fact(0, 0, 0, EXACT, 0));
        CHECK.write(x, "5");
        CHECK.due("no such unit", -1, x.fact(0, 0, 5, EXACT, 0));
        CHECK.due("the text is still there", 0, x.fact(0, 0, 0, EXACT, 0));
        CHECK.due("value(0)", 500000, x.value(0));
        CHECK.due("the text is empty then", -1, x.fact(0, 0, 0, EXACT, 0));
        CHECK.write(x, "-2");
        CHECK.due("a new text", 1, x.fact(0, 0, 0, EXACT, 0));
        CHECK.due("value(1)", -2000000, x.value(1));
    }

    private static void textFactsTakeWhatIsWritten() {
        FactBinder x = Check.withNumberConcept();
        x.concept(0, 0, 0, 0);
        CHECK.write(x, "12");
        CHECK.due("a text fact of a number", 0, x.fact(1, 0, -1, 0, 0));
        CHECK.due("its value", 0, x.value(0));
        CHECK.due("its rounded value", 0, x.rounded(0));
        CHECK.due("the text is empty then", -1, x.fact(0, 0, 0, EXACT, 0));
        CHECK.write(x, "+.-+");
        CHECK.due("a text fact of no number", 1, x.fact(1, 0, -1, DECIMALS, -3));
        CHECK.due("its places", -3, x.places(1));
        CHECK.due("a text fact of nothing", 2, x.fact(1, 0, -1, PRECISION, 2));
        CHECK.due("its places", 6, x.places(2));
        CHECK.due("a wrong k", -1, x.fact(1, 0, -1, PRECISION, 16));
        CHECK.due("a wrong context", -1, x.fact(1, 1, -1, 0, 0));
    }

    private static FactBinder withFact(String text, int mode, int k) {
        FactBinder x = Check.withNumberConcept();
        CHECK.write(x, text);
        CHECK.due("fact of " + text, 0, x.fact(0, 0, 0, mode, k));
        return x;
    }

    private static void duePlaces(int want, String text, int mode, int k) {
        String call = "places of " + text + ", mode " + mode + ", k " + k;
        CHECK.due(call, want, withFact(text, mode, k).places(0));
    }

    private static void dueRounded(long want, String text, int mode, int k) {
        String call = "rounded of " + text + ", mode " + mode + ", k " + k;
        CHECK.due(call, want, withFact(text, mode, k).rounded(0));
    }

    private static void decimalsAreThePlaces() {
        for (int d = -9; d <= 6; d++) {
            duePlaces(d, "123.45", DECIMALS, d);
            duePlaces(d, "0", DECIMALS, d);
        }
    }

    private static void placesOfOtherModes() {
        duePlaces(6, "123.45", EXACT, 2);
        duePlaces(6, "123.45", 0, 2);
        duePlaces(6, "0", PRECISION, 0);
        duePlaces(6, "-0.000000", PRECISION, 3);
        dueRounded(123456789, "123.456789", EXACT, 0);
        dueRounded(123456789, "123.456789", 0, 0);
    }

    private static void placesOfPrecision() {
        duePlaces(0, "123.45", PRECISION, 3);
        duePlaces(-3, "123.45", PRECISION, 0);
        duePlaces(2, "-123.45", PRECISION, 5);
        duePlaces(0, "00123.45", PRECISION, 3);
        duePlaces(-1, "9", PRECISION, 0);
        duePlaces(-2, "10", PRECISION, 0);
        duePlaces(-1, "9.999999", PRECISION, 0);
        duePlaces(1, "0.0123", PRECISION, 0);
        duePlaces(3, "-.0123", PRECISION, 2);
        duePlaces(0, "0.123", PRECISION, 0);
        duePlaces(2, "0.1", PRECISION, 2);
        duePlaces(5, "0.000001", PRECISION, 0);
        duePlaces(5, "-0.000001", PRECISION, 0);
        duePlaces(6, "0.000001", PRECISION, 1);
        duePlaces(6, "0.000001", PRECISION, 15);
        duePlaces(6, "1.5", PRECISION, 15);
        duePlaces(6, "1.5", PRECISION, 7);
        duePlaces(5, "1.5", PRECISION, 6);
        duePlaces(-9, "999999999.999999", PRECISION, 0);
        duePlaces(-8, "100000000", PRECISION, 1);
        duePlaces(6, "999999999.999999", PRECISION, 15);
        duePlaces(5, "999999999.999999", PRECISION, 14);
    }

    private static void roundingGoesToTheEven() {
        dueRounded(250000000L, "250.5", DECIMALS, 0);
        dueRounded(252000000L, "251.5", DECIMALS, 0);
        dueRounded(-250000000L, "-250.5", DECIMALS, 0);
        dueRounded(-252000000L, "-251.5", DECIMALS, 0);
        dueRounded(251000000L, "250.500001", DECIMALS, 0);
        dueRounded(-251000000L, "-250.500001", DECIMALS, 0);
        dueRounded(250000000L, "250.499999", DECIMALS, 0);
        dueRounded(0, "0.5", DECIMALS, 0);
        dueRounded(0, "-0.5", DECIMALS, 0);
        dueRounded(2000000, "1.5", DECIMALS, 0);
        dueRounded(-2000000, "-1.5", DECIMALS, 0);
        dueRounded(0, "0.000005", DECIMALS, 5);
        dueRounded(20, "0.000015", DECIMALS, 5);
        dueRounded(15, "0.000015", DECIMALS, 6);
        dueRounded(0, "500000000", DECIMALS, -9);
        dueRounded(1000000000000000L, "500000000.000001", DECIMALS, -9);
        dueRounded(-1000000000000000L, "-999999999.999999", DECIMALS, -9);
        dueRounded(0, "-499999999.999999", DECIMALS, -9);
        dueRounded(200000000000000L, "150000000", DECIMALS, -8);
        dueRounded(200000000000000L, "250000000", DECIMALS, -8);
        dueRounded(123000000, "123.45", PRECISION, 3);
        dueRounded(12000, "0.0123", PRECISION, 2);
        dueRounded(0, "2", PRECISION, 0);
        dueRounded(10000000, "7", PRECISION, 0);
    }

    private static void roundingToEveryPlace() {
        String[] texts = {"123456789.123456", "-987654321.987654", "444444444.555555", "-555555555.5"};
        for (String text : texts) {
            for (int d = -9; d <= 6; d++) {
                BigDecimal rounded = new BigDecimal(text).setScale(d, RoundingMode.HALF_EVEN);
                dueRounded(rounded.movePointRight(6).longValueExact(), text, DECIMALS, d);
            }
        }
    }

    private static void missingFacts() {
        FactBinder x = withFact("5", EXACT, 0);
        int[] missing = {-1, 1, 19, 20, MIN, MAX};
        for (int m : missing) {
            CHECK.due("value(" + m + ")", 0, x.value(m));
            CHECK.due("places(" + m + ")", 99, x.places(m));
            CHECK.due("rounded(" + m + ")", 0, x.rounded(m));
            CHECK.due("sum(0, " + m + ")", 0, x.sum(0, m));
        }
    }
}
