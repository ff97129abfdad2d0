import java.math.BigInteger;

/**
 * The boundary cases that the document names in 'Values', sentence by sentence: results that just fit into a
 * long and results that just do not, and divisions, powers and functions at their ends. What is due is written
 * out beside the sentences; for the tables behind them, it is worked out with BigInteger.
 */
public final class ValueBoundsTest {
    private static final int OVERFLOW = NotationParser.OVERFLOW;
    private static final int DIVISION_BY_ZERO = NotationParser.DIVISION_BY_ZERO;
    private static final int DOMAIN_ERROR = NotationParser.DOMAIN_ERROR;
    private static final String LEAST = "((-2)^63)";
    private static final String GREATEST = "(2^62-1+2^62)";
    private static final String ROOT = "(3037*1000^2+499)";
    private static final String NEXT_ROOT = "(3037*1000^2+500)";
    private static final BigInteger ONE = BigInteger.ONE;
    private static final Due DUE = new Due();

    public static void main(String[] args) {
        variablesAtTheirEnds();
        longResults();
        sums();
        differences();
        negations();
        products();
        juxtapositions();
        quotients();
        negativeExponents();
        exponentZero();
        powersThatNeverOverflow();
        powersThatJustFit();
        powersThatWrapAround();
        absoluteValues();
        signs();
        squares();
        doubles();
        forwardDifferences();
        twoAndThreePrimes();
        valueBehindComputedFirst();
        leftOperandFirst();
        operandsBeforeTheirOperator();
        sumsOfAChainFromLeftToRight();
        chainsWithAndWithoutLinks();
        relationsAtTheirEnds();
        betweenAtItsEnds();
        sumBeforeALaterLink();
        everyOperatorAtAllEnds();
        everyFunctionAtAllEnds();
        everyRelationAtAllEnds();
        DUE.end();
    }

    private static void is(String text, long due) {
        check(text, NotationParser.SUCCESS, due);
    }

    private static void fails(String text, int status) {
        check(text, status, 0);
    }

    private static void check(String text, int status, long value) {
        NotationParser parser = Due.accepted(text);
        for (int reading = 0; reading < 4; reading++) {
            DUE.same("status(" + reading + ") of " + text, parser.status(reading), status);
            DUE.same("value(" + reading + ") of " + text, parser.value(reading), value);
        }
    }

    // ---- each sentence

    /** "Each variable has a value from -1000 to 1000, initially 0." */
    private static void variablesAtTheirEnds() {
        NotationParser parser = Due.accepted("x");
        DUE.same("x at first", parser.value(0), 0);
        for (int value : new int[] {-1000, -999, 999, 1000}) {
            DUE.same("setVariable to " + value, parser.setVariable('x' - 'a', value), 1);
            DUE.same("x", parser.value(3), value);
        }
        for (int value : new int[] {-1001, 1001}) {
            DUE.same("setVariable to " + value, parser.setVariable('x' - 'a', value), NotationParser.INVALID_ARGUMENT);
            DUE.same("x", parser.value(3), 1000);
        }
    }

    /** "Numbers, variables and all results are long integers." */
    private static void longResults() {
        is("999999*999999", 999998000001L);
        is("2^31", 2147483648L);
        is("2^32+1", 4294967297L);
        is("-2^31-1", -2147483649L);
        is(GREATEST, Long.MAX_VALUE);
        is(LEAST, Long.MIN_VALUE);
        is(GREATEST + "-0", Long.MAX_VALUE);
        is("(" + LEAST + ")", Long.MIN_VALUE);
    }

    /** "The operators + ... fail with OVERFLOW if the result does not fit into a long." */
    private static void sums() {
        is(GREATEST + "+0", Long.MAX_VALUE);
        is("2^62-1+2^62", Long.MAX_VALUE);
        fails("2^62+2^62", OVERFLOW);
        fails(GREATEST + "+1", OVERFLOW);
        fails("1+" + GREATEST, OVERFLOW);
        fails(GREATEST + "+" + GREATEST, OVERFLOW);
        is("(-2^62)+(-2^62)", Long.MIN_VALUE);
        fails("(-2^62)+(-2^62-1)", OVERFLOW);
        is(LEAST + "+0", Long.MIN_VALUE);
        fails(LEAST + "+(-1)", OVERFLOW);
        fails(LEAST + "+" + LEAST, OVERFLOW);
        is(LEAST + "+" + GREATEST, -1);
        is(GREATEST + "+" + LEAST, -1);
        fails(GREATEST + "+1-1", OVERFLOW);
    }

    /** "The operators ... - ... fail with OVERFLOW if the result does not fit into a long." */
    private static void differences() {
        is(LEAST + "-0", Long.MIN_VALUE);
        fails(LEAST + "-1", OVERFLOW);
        is(LEAST + "+1-1", Long.MIN_VALUE);
        fails(LEAST + "-1+1", OVERFLOW);
        is("(-1)-" + LEAST, Long.MAX_VALUE);
        fails("0-" + LEAST, OVERFLOW);
        fails("1-" + LEAST, OVERFLOW);
        is(GREATEST + "-(-0)", Long.MAX_VALUE);
        fails(GREATEST + "-(-1)", OVERFLOW);
        is("(-1)-" + GREATEST, Long.MIN_VALUE);
        fails("(-2)-" + GREATEST, OVERFLOW);
        is(LEAST + "-" + LEAST, 0);
        is(GREATEST + "-" + GREATEST, 0);
        fails(GREATEST + "-" + LEAST, OVERFLOW);
        fails(LEAST + "-" + GREATEST, OVERFLOW);
    }

    /** "... and the negation fail with OVERFLOW if the result does not fit into a long." */
    private static void negations() {
        is("-" + GREATEST, -Long.MAX_VALUE);
        is("-(" + LEAST + "+1)", Long.MAX_VALUE);
        fails("-" + LEAST, OVERFLOW);
        fails("(-(-" + GREATEST + "-1))", OVERFLOW);
        is("-0", 0);
        is("-(-1)", 1);
    }

    /** "The operators ... * ... fail with OVERFLOW if the result does not fit into a long." */
    private static void products() {
        is(ROOT + "*" + ROOT, 9223372030926249001L);
        fails(NEXT_ROOT + "*" + NEXT_ROOT, OVERFLOW);
        is("(2^31)*(2^31)", 1L << 62);
        fails("(2^31)*(2^32)", OVERFLOW);
        is("(2^31)*(-2^32)", Long.MIN_VALUE);
        is("(-2^32)*(2^31)", Long.MIN_VALUE);
        fails("(-2^32)*(-2^31)", OVERFLOW);
        fails("(2^32)*(2^32)", OVERFLOW);
        fails("(2^32+1)*(2^32-1)", OVERFLOW);
        is(GREATEST + "*1", Long.MAX_VALUE);
        is(GREATEST + "*(-1)", -Long.MAX_VALUE);
        is("(-1)*" + GREATEST, -Long.MAX_VALUE);
        is(LEAST + "*1", Long.MIN_VALUE);
        is("1*" + LEAST, Long.MIN_VALUE);
        fails(LEAST + "*(-1)", OVERFLOW);
        fails("(-1)*" + LEAST, OVERFLOW);
        is(LEAST + "*0", 0);
        is("0*" + LEAST, 0);
        fails(LEAST + "*2", OVERFLOW);
        fails("2*" + LEAST, OVERFLOW);
        fails("2*(2^62)", OVERFLOW);
        is("2*(2^62-1)", Long.MAX_VALUE - 1);
        is("2*(-2^62)", Long.MIN_VALUE);
        fails("2*(-2^62-1)", OVERFLOW);
        fails(GREATEST + "*" + LEAST, OVERFLOW);
        fails(LEAST + "*" + LEAST, OVERFLOW);
        is("49*73*127*337*92737*649657", Long.MAX_VALUE);
        is("(-2^40)*(2^23)", Long.MIN_VALUE);
        fails("(2^40)*(2^23)", OVERFLOW);
    }

    /** "a juxtaposition is a multiplication": it fails as * does. */
    private static void juxtapositions() {
        is(ROOT + ROOT, 9223372030926249001L);
        fails(NEXT_ROOT + NEXT_ROOT, OVERFLOW);
        is("2(2^62-1)", Long.MAX_VALUE - 1);
        fails("2(2^62)", OVERFLOW);
        is("(2^31)(-2^32)", Long.MIN_VALUE);
        fails("(-1)" + LEAST, OVERFLOW);
        fails(LEAST + "(-1)", OVERFLOW);
        is("1" + LEAST, Long.MIN_VALUE);
        is("0" + LEAST, 0);
    }

    /**
     * "The operator / is Java's long division; it fails with DIVISION_BY_ZERO if the divisor is 0, and with
     * OVERFLOW for Long.MIN_VALUE / -1."
     */
    private static void quotients() {
        is("7/2", 3);
        is("(-7)/2", -3);
        is("7/(-2)", -3);
        is("(-7)/(-2)", 3);
        is("1/2", 0);
        is("(-1)/2", 0);
        is("0/7", 0);
        is("0/(-7)", 0);
        fails("1/0", DIVISION_BY_ZERO);
        fails("0/0", DIVISION_BY_ZERO);
        fails("(-1)/0", DIVISION_BY_ZERO);
        fails("x/y", DIVISION_BY_ZERO);
        fails(LEAST + "/0", DIVISION_BY_ZERO);
        fails(GREATEST + "/0", DIVISION_BY_ZERO);
        fails(LEAST + "/(-1)", OVERFLOW);
        fails(LEAST + "/(0-1)", OVERFLOW);
        is("(" + LEAST + "+1)/(-1)", Long.MAX_VALUE);
        is(LEAST + "/1", Long.MIN_VALUE);
        is(LEAST + "/(-2)", 1L << 62);
        is(LEAST + "/2", -(1L << 62));
        is(GREATEST + "/(-1)", -Long.MAX_VALUE);
        is(GREATEST + "/1", Long.MAX_VALUE);
        is(LEAST + "/" + LEAST, 1);
        is(GREATEST + "/" + LEAST, 0);
        is(LEAST + "/" + GREATEST, -1);
        is("1/" + LEAST, 0);
    }

    /** "The operator ^ fails with DOMAIN_ERROR if the exponent is negative". */
    private static void negativeExponents() {
        String[] bases = {"0", "1", "2", "(-1)", "(-2)", LEAST, GREATEST};
        for (String base : bases) {
            fails(base + "^(-1)", DOMAIN_ERROR);
            fails(base + "^(-2)", DOMAIN_ERROR);
            fails(base + "^" + LEAST, DOMAIN_ERROR);
            check(base + "^0", NotationParser.SUCCESS, 1);
        }
    }

    /** "otherwise it multiplies 1 by the base, exponent times"; "0 ^ 0 is 1". */
    private static void exponentZero() {
        is("0^0", 1);
        is("x^y", 1);
        is("(0-0)^(-0)", 1);
        is("5^0", 1);
        is("(-5)^0", 1);
        is("5^1", 5);
        is("(-5)^1", -5);
        is("(-5)^2", 25);
        is("(-5)^3", -125);
        is("0^1", 0);
        is("0^2", 0);
        is(GREATEST + "^1", Long.MAX_VALUE);
        is(LEAST + "^1", Long.MIN_VALUE);
    }

    /** "For the bases 0, 1 and -1 it never fails with OVERFLOW, however large the exponent is". */
    private static void powersThatNeverOverflow() {
        String[] odd = {"1", "63", "65", "999999", "(2^31+1)", "(2^32+1)", GREATEST};
        String[] even = {"2", "64", "66", "999998", "(2^31)", "(2^32)", "(2^62)", "(" + GREATEST + "-1)"};
        for (String exponent : odd) {
            is("0^" + exponent, 0);
            is("1^" + exponent, 1);
            is("(-1)^" + exponent, -1);
        }
        for (String exponent : even) {
            is("0^" + exponent, 0);
            is("1^" + exponent, 1);
            is("(-1)^" + exponent, 1);
        }
    }

    /** "and fails with OVERFLOW as soon as such a product does not fit": the greatest powers that fit. */
    private static void powersThatJustFit() {
        justFits("2", 62, 1L << 62);
        justFits("(-2)", 63, Long.MIN_VALUE);
        justFits("3", 39, 4052555153018976267L);
        justFits("(-3)", 39, -4052555153018976267L);
        justFits("10", 18, 1000000000000000000L);
        justFits("(-10)", 18, 1000000000000000000L);
        justFits("7", 22, 3909821048582988049L);
        justFits("8", 20, 1L << 60);
        justFits("(-8)", 21, Long.MIN_VALUE);
        justFits("(-128)", 9, Long.MIN_VALUE);
        justFits("(-512)", 7, Long.MIN_VALUE);
        justFits("(-2^21)", 3, Long.MIN_VALUE);
        justFits("(2^21-1)", 3, 9223358842721533951L);
        justFits("(2^21)", 2, 1L << 42);
        justFits("55108", 4, 9222710978872688896L);
        justFits("55109", 3, 167366136660029L);
        justFits(ROOT, 2, 9223372030926249001L);
        justFits(NEXT_ROOT, 1, 3037000500L);
        justFits("(-3037*1000^2-499)", 2, 9223372030926249001L);
        justFits("(-3037*1000^2-500)", 1, -3037000500L);
        justFits(GREATEST, 1, Long.MAX_VALUE);
        justFits(LEAST, 1, Long.MIN_VALUE);
    }

    private static void justFits(String base, int exponent, long due) {
        is(base + "^" + exponent, due);
        fails(base + "^" + (exponent + 1), OVERFLOW);
        fails(base + "^" + (exponent + 2), OVERFLOW);
        fails(base + "^999999", OVERFLOW);
        fails(base + "^" + GREATEST, OVERFLOW);
    }

    /** "as soon as such a product does not fit": what would come back into a long later still fails. */
    private static void powersThatWrapAround() {
        fails("2^63", OVERFLOW);
        fails("2^64", OVERFLOW);
        fails("2^65", OVERFLOW);
        fails("(-2)^64", OVERFLOW);
        fails("(-2)^65", OVERFLOW);
        fails("4^32", OVERFLOW);
        fails("65536^4", OVERFLOW);
        fails("(2^32)^2", OVERFLOW);
        fails("(2^32)^3", OVERFLOW);
        fails(LEAST + "^2", OVERFLOW);
        fails(LEAST + "^3", OVERFLOW);
        fails(GREATEST + "^2", OVERFLOW);
        fails(GREATEST + "^3", OVERFLOW);
        fails("3^64", OVERFLOW);
        fails("2^3^4", OVERFLOW);
        is("(2^3)^4", 4096);
    }

    /** "abs, the absolute value"; "They fail with OVERFLOW if the result does not fit into a long." */
    private static void absoluteValues() {
        is("abs(-1)", 1);
        is("abs 0", 0);
        is("abs 1", 1);
        is("abs" + GREATEST, Long.MAX_VALUE);
        is("abs(-" + GREATEST + ")", Long.MAX_VALUE);
        is("abs(" + LEAST + "+1)", Long.MAX_VALUE);
        fails("abs" + LEAST, OVERFLOW);
    }

    /** "sgn, the sign (-1, 0 or 1)". */
    private static void signs() {
        is("sgn" + LEAST, -1);
        is("sgn(-1000)", -1);
        is("sgn(-1)", -1);
        is("sgn 0", 0);
        is("sgn(-0)", 0);
        is("sgn 1", 1);
        is("sgn(2^32)", 1);
        is("sgn(-2^32)", -1);
        is("sgn" + GREATEST, 1);
    }

    /** "sqr, the square"; "They fail with OVERFLOW if the result does not fit into a long." */
    private static void squares() {
        is("sqr 0", 0);
        is("sqr(-1)", 1);
        is("sqr" + ROOT, 9223372030926249001L);
        fails("sqr" + NEXT_ROOT, OVERFLOW);
        is("sqr(-3037*1000^2-499)", 9223372030926249001L);
        fails("sqr(-3037*1000^2-500)", OVERFLOW);
        is("sqr(2^31)", 1L << 62);
        fails("sqr(2^32)", OVERFLOW);
        fails("sqr" + LEAST, OVERFLOW);
        fails("sqr" + GREATEST, OVERFLOW);
    }

    /** "dbl, the double"; "They fail with OVERFLOW if the result does not fit into a long." */
    private static void doubles() {
        is("dbl 0", 0);
        is("dbl(-1)", -2);
        is("dbl(2^62-1)", Long.MAX_VALUE - 1);
        fails("dbl(2^62)", OVERFLOW);
        is("dbl(-2^62)", Long.MIN_VALUE);
        fails("dbl(-2^62-1)", OVERFLOW);
        fails("dbl" + LEAST, OVERFLOW);
        fails("dbl" + GREATEST, OVERFLOW);
    }

    /** "if f is a function with its primes, f'(x) is f(x + 1) - f(x)." */
    private static void forwardDifferences() {
        is("abs'(-1)", -1);
        is("abs'0", 1);
        is("sgn'(-2)", 0);
        is("sgn'(-1)", 1);
        is("sgn'0", 1);
        is("sgn'1", 0);
        is("sqr'(-1)", -1);
        is("sqr'0", 1);
        is("dbl'0", 2);
        is("abs'(" + GREATEST + "-1)", 1);
        is("abs'(" + LEAST + "+1)", -1);
        fails("abs'" + LEAST, OVERFLOW);
        is("sqr'(" + ROOT + "-1)", 6074000997L);
        fails("sqr'" + ROOT, OVERFLOW);
        is("sqr'(-3037*1000^2-499)", -6074000997L);
        fails("sqr'(-3037*1000^2-500)", OVERFLOW);
        fails("sqr'" + LEAST, OVERFLOW);
        is("dbl'(2^62-2)", 2);
        fails("dbl'(2^62-1)", OVERFLOW);
        is("dbl'(-2^62)", 2);
        fails("dbl'(-2^62-1)", OVERFLOW);
        is("sgn'" + LEAST, 0);
    }

    /** "A prime denotes the forward difference: if f is a function with its primes": two and three of them. */
    private static void twoAndThreePrimes() {
        is("abs''(-2)", 0);
        is("abs''(-1)", 2);
        is("abs''0", 0);
        is("abs'''(-3)", 0);
        is("abs'''(-2)", 2);
        is("abs'''(-1)", -2);
        is("abs'''0", 0);
        is("sgn''(-2)", 1);
        is("sgn''(-1)", 0);
        is("sgn''0", -1);
        is("sgn'''(-3)", 1);
        is("sgn'''(-2)", -1);
        is("sgn'''(-1)", -1);
        is("sgn'''0", 1);
        is("sqr''7", 2);
        is("sqr'''7", 0);
        is("dbl''7", 0);
        is("dbl'''7", 0);
        is("sqr''(" + ROOT + "-2)", 2);
        fails("sqr''(" + ROOT + "-1)", OVERFLOW);
        is("sqr'''(" + ROOT + "-3)", 0);
        fails("sqr'''(" + ROOT + "-2)", OVERFLOW);
        is("sqr'''(-3037*1000^2-499)", 0);
        fails("sqr'''(-3037*1000^2-500)", OVERFLOW);
        is("dbl''(2^62-3)", 0);
        fails("dbl''(2^62-2)", OVERFLOW);
        is("dbl'''(2^62-4)", 0);
        fails("dbl'''(2^62-3)", OVERFLOW);
        is("abs'''(" + LEAST + "+1)", 0);
        fails("abs'''" + LEAST, OVERFLOW);
    }

    /** "The value f(x + 1) is computed before f(x), and x + 1 before that." */
    private static void valueBehindComputedFirst() {
        is("sgn'(" + GREATEST + "-1)", 0);
        fails("sgn'" + GREATEST, OVERFLOW);
        is("sgn''(" + GREATEST + "-2)", 0);
        fails("sgn''(" + GREATEST + "-1)", OVERFLOW);
        is("sgn'''(" + GREATEST + "-3)", 0);
        fails("sgn'''(" + GREATEST + "-2)", OVERFLOW);
        fails("abs'" + GREATEST, OVERFLOW);
        is("abs'''(" + GREATEST + "-3)", 0);
        fails("abs'''(" + GREATEST + "-2)", OVERFLOW);
        fails("sqr'" + GREATEST, OVERFLOW);
        fails("dbl'" + GREATEST, OVERFLOW);
    }

    /** "Operands are evaluated from left to right ... The first failure is the result of the evaluation." */
    private static void leftOperandFirst() {
        String[] failing = {"(2^63)", "(1/0)", "(2^(-1))"};
        String[] operators = {"+", "-", "*", "/", "^", ""};
        for (int left = 0; left < failing.length; left++) {
            for (int right = 0; right < failing.length; right++) {
                for (String operator : operators) {
                    fails(failing[left] + operator + failing[right], 1 + left);
                    fails("3" + operator + failing[left] + operator + failing[right], 1 + left);
                    fails("abs(" + failing[left] + operator + "abs" + failing[right] + ")", 1 + left);
                }
            }
            for (String operator : operators) {
                fails("3" + operator + failing[left], 1 + left);
                fails("0" + operator + failing[left], 1 + left);
                fails("1" + operator + failing[left], 1 + left);
                fails(failing[left] + operator + "(0)", 1 + left);
                fails(failing[left] + operator + "x", 1 + left);
            }
            fails("-" + failing[left], 1 + left);
            fails("sgn'" + failing[left], 1 + left);
            fails("1-(2-" + failing[left] + ")+1/0", 1 + left);
        }
    }

    /** "Operands are evaluated ... before their operator." */
    private static void operandsBeforeTheirOperator() {
        fails("(2^63)/0", OVERFLOW);
        fails("1/(0*(2^(-1)))", DOMAIN_ERROR);
        fails("(1/0)^(-1)", DIVISION_BY_ZERO);
        fails("2^(-1/0)", DIVISION_BY_ZERO);
        fails("(2^63)^(-1)", OVERFLOW);
        fails("1/0^(-1)", DOMAIN_ERROR);
        fails("1/0^0^0", DIVISION_BY_ZERO);
        fails("1/0^1", DIVISION_BY_ZERO);
        fails(LEAST + "/(-1/0)", DIVISION_BY_ZERO);
        fails("-" + LEAST + "/0", DIVISION_BY_ZERO);
        fails("(-" + LEAST + ")/0", OVERFLOW);
        fails("abs" + LEAST + "/0", OVERFLOW);
        fails("2^0^(0-1)", DOMAIN_ERROR);
        fails("2^(1/0)^(0-1)", DIVISION_BY_ZERO);
    }

    /** "its sums are evaluated from left to right (both sums of a ":" link in their order)". */
    private static void sumsOfAChainFromLeftToRight() {
        String[] failing = {"2^63", "1/0", "2^(-1)"};
        for (int first = 0; first < failing.length; first++) {
            for (int second = 0; second < failing.length; second++) {
                for (String relation : new String[] {"=", "<", ">", "<=", ">=", "!="}) {
                    fails(failing[first] + relation + failing[second], 1 + first);
                    fails("1" + relation + failing[first] + relation + failing[second], 1 + first);
                }
                fails("1:" + failing[first] + ".." + failing[second], 1 + first);
                fails(failing[first] + ":" + failing[second] + "..3", 1 + first);
                fails(failing[first] + ":1.." + failing[second], 1 + first);
                fails("1:0.." + failing[first] + "=" + failing[second], 1 + first);
                fails("1=2:3.." + failing[first] + ":" + failing[second] + "..5", 1 + first);
            }
            fails("1=2=3=4=" + failing[first], 1 + first);
            fails("1:2..3:4.." + failing[first], 1 + first);
        }
    }

    /**
     * "If a formula has no links, its value is that of its sum. If it has links ... the value is 1 if all links
     * hold and 0 otherwise."
     */
    private static void chainsWithAndWithoutLinks() {
        is("0", 0);
        is("1", 1);
        is("-7", -7);
        is("0=0", 1);
        is("7=7", 1);
        is("0=1", 0);
        is("7!=7", 0);
        is("1<2<3<4<5", 1);
        is("0<0<1<2<3", 0);
        is("0<1<1<2<3", 0);
        is("0<1<2<2<3", 0);
        is("0<1<2<3<3", 0);
        is("2:1..3:2..4:3..5:4..6", 1);
        is("0:1..3:2..4:3..5:4..6", 0);
        is("2:1..3:4..4:3..5:4..6", 0);
        is("2:1..3:2..4:5..5:4..6", 0);
        is("2:1..3:2..4:3..5:6..6", 0);
    }

    /** "A relation link holds if the relation holds between the sum before it and its own sum." */
    private static void relationsAtTheirEnds() {
        String[] relations = {"=", "<", ">", "<=", ">=", "!="};
        long[] equal = {1, 0, 0, 1, 1, 0};
        long[] less = {0, 1, 0, 1, 0, 1};
        long[] greater = {0, 0, 1, 0, 1, 1};
        for (int i = 0; i < relations.length; i++) {
            is("0" + relations[i] + "0", equal[i]);
            is("0" + relations[i] + "1", less[i]);
            is("0" + relations[i] + "-1", greater[i]);
            is(LEAST + relations[i] + LEAST, equal[i]);
            is(LEAST + relations[i] + GREATEST, less[i]);
            is(GREATEST + relations[i] + LEAST, greater[i]);
            is(GREATEST + "-1" + relations[i] + GREATEST, less[i]);
            is(LEAST + "+1" + relations[i] + LEAST, greater[i]);
            is("2^32" + relations[i] + "0", greater[i]);
            is("-2^32" + relations[i] + "0", less[i]);
        }
    }

    /** "A link a : b .. c holds if b <= a and a <= c." */
    private static void betweenAtItsEnds() {
        is("2:3..5", 0);
        is("3:3..5", 1);
        is("4:3..5", 1);
        is("5:3..5", 1);
        is("6:3..5", 0);
        is("3:3..3", 1);
        is("2:3..3", 0);
        is("4:3..3", 0);
        is("4:5..3", 0);
        is("3:5..3", 0);
        is("5:5..3", 0);
        is(LEAST + ":" + LEAST + ".." + GREATEST, 1);
        is(GREATEST + ":" + LEAST + ".." + GREATEST, 1);
        is("0:" + LEAST + ".." + GREATEST, 1);
        is("0:" + GREATEST + ".." + LEAST, 0);
        is(LEAST + ":" + LEAST + "+1.." + GREATEST, 0);
        is(GREATEST + ":" + LEAST + ".." + GREATEST + "-1", 0);
    }

    /** "For a later link, the sum before it is the last sum of the link before." */
    private static void sumBeforeALaterLink() {
        is("1<3<4", 1);
        is("1<3<2", 0);
        is("9:1..9=9", 1);
        is("5:1..9=9", 1);
        is("5:1..9=5", 0);
        is("5:1..9=1", 0);
        is("5:1..9:9..9", 1);
        is("5:1..9:5..5", 0);
        is("5:1..9:9..20<21", 1);
        is("5:1..9:9..20<20", 0);
        is("5<6:6..7=7", 1);
        is("5<6:5..5=5", 0);
    }

    // ---- the tables

    private record Number(String text, BigInteger value) {
        static Number of(String text, long value) {
            return new Number(text, BigInteger.valueOf(value));
        }
    }

    private static final Number[] ENDS = {
        Number.of(LEAST, Long.MIN_VALUE), Number.of("(1+(-2)^63)", Long.MIN_VALUE + 1),
        Number.of("(-2^62-1)", -(1L << 62) - 1), Number.of("(-2^62)", -(1L << 62)),
        Number.of("(1-2^62)", 1 - (1L << 62)), Number.of("(-3037*1000^2-500)", -3037000500L),
        Number.of("(-3037*1000^2-499)", -3037000499L), Number.of("(-2^32)", -(1L << 32)),
        Number.of("(-2^31-1)", -(1L << 31) - 1), Number.of("(-2^31)", -(1L << 31)), Number.of("(-1000)", -1000),
        Number.of("(-3)", -3), Number.of("(-2)", -2), Number.of("(-1)", -1), Number.of("(0)", 0),
        Number.of("(1)", 1), Number.of("(2)", 2), Number.of("(3)", 3), Number.of("(10)", 10), Number.of("(18)", 18),
        Number.of("(19)", 19), Number.of("(39)", 39), Number.of("(40)", 40), Number.of("(62)", 62),
        Number.of("(63)", 63), Number.of("(64)", 64), Number.of("(999999)", 999999),
        Number.of("(2^31-1)", (1L << 31) - 1), Number.of("(2^31)", 1L << 31), Number.of("(2^32-1)", (1L << 32) - 1),
        Number.of("(2^32)", 1L << 32), Number.of(ROOT, 3037000499L), Number.of(NEXT_ROOT, 3037000500L),
        Number.of("(2^62-1)", (1L << 62) - 1), Number.of("(2^62)", 1L << 62),
        Number.of("(2^62-2+2^62)", Long.MAX_VALUE - 1), Number.of(GREATEST, Long.MAX_VALUE),
    };

    private static boolean fits(BigInteger value) {
        return value.bitLength() <= 63;
    }

    private static void checkFitting(String text, BigInteger due) {
        if (fits(due)) {
            is(text, due.longValue());
        } else {
            fails(text, OVERFLOW);
        }
    }

    /** All pairs of ENDS with each operator: "if the result does not fit into a long". */
    private static void everyOperatorAtAllEnds() {
        for (Number left : ENDS) {
            is(left.text, left.value.longValue());
            checkFitting("-" + left.text, left.value.negate());
            for (Number right : ENDS) {
                checkFitting(left.text + "+" + right.text, left.value.add(right.value));
                checkFitting(left.text + "-" + right.text, left.value.subtract(right.value));
                checkFitting(left.text + "*" + right.text, left.value.multiply(right.value));
                checkFitting(left.text + right.text, left.value.multiply(right.value));
                if (right.value.signum() == 0) {
                    fails(left.text + "/" + right.text, DIVISION_BY_ZERO);
                } else {
                    checkFitting(left.text + "/" + right.text, left.value.divide(right.value));
                }
                if (right.value.signum() < 0) {
                    fails(left.text + "^" + right.text, DOMAIN_ERROR);
                } else {
                    checkFitting(left.text + "^" + right.text, power(left.value, right.value));
                }
            }
        }
    }

    /** With more than 70 factors, what does not come back to itself is far too large. */
    private static BigInteger power(BigInteger base, BigInteger exponent) {
        BigInteger most = BigInteger.valueOf(70);
        boolean few = exponent.compareTo(most) <= 0;
        return base.pow(few ? exponent.intValue() : exponent.testBit(0) ? 71 : 70);
    }

    /** Each function with each number of primes at ENDS and close to them. */
    private static void everyFunctionAtAllEnds() {
        for (Number end : ENDS) {
            for (int offset = -4; offset <= 4; offset++) {
                String argument = "(" + end.text + (offset < 0 ? "-" : "+") + Math.abs(offset) + ")";
                BigInteger x = end.value.add(BigInteger.valueOf(offset));
                for (String name : new String[] {"abs", "sgn", "sqr", "dbl"}) {
                    for (int primes = 0; primes <= 3; primes++) {
                        checkFunction(name, primes, argument, x);
                    }
                }
            }
        }
    }

    private static void checkFunction(String name, int primes, String argument, BigInteger x) {
        String text = name + "'".repeat(primes) + argument;
        boolean allFit = true;
        for (int i = 0; i <= primes; i++) {
            BigInteger next = x.add(BigInteger.valueOf(i));
            allFit = allFit && fits(next) && fits(applied(name, 0, next));
        }
        if (allFit && fits(x)) {
            is(text, applied(name, primes, x).longValue());
        } else {
            fails(text, OVERFLOW);
        }
    }

    private static BigInteger applied(String name, int primes, BigInteger x) {
        if (primes > 0) {
            return applied(name, primes - 1, x.add(ONE)).subtract(applied(name, primes - 1, x));
        }
        switch (name) {
            case "abs":
                return x.abs();
            case "sgn":
                return BigInteger.valueOf(x.signum());
            case "sqr":
                return x.multiply(x);
            default:
                return x.add(x);
        }
    }

    /** All pairs of ENDS with each relation, and all threes of some with a ":" link. */
    private static void everyRelationAtAllEnds() {
        for (Number left : ENDS) {
            for (Number right : ENDS) {
                int order = left.value.compareTo(right.value);
                is(left.text + "=" + right.text, order == 0 ? 1 : 0);
                is(left.text + "<" + right.text, order < 0 ? 1 : 0);
                is(left.text + ">" + right.text, order > 0 ? 1 : 0);
                is(left.text + "<=" + right.text, order <= 0 ? 1 : 0);
                is(left.text + ">=" + right.text, order >= 0 ? 1 : 0);
                is(left.text + "!=" + right.text, order != 0 ? 1 : 0);
            }
        }
        for (int i = 0; i < ENDS.length; i += 3) {
            for (int j = 0; j < ENDS.length; j += 3) {
                for (int k = 0; k < ENDS.length; k += 3) {
                    boolean holds = ENDS[j].value.compareTo(ENDS[i].value) <= 0
                        && ENDS[i].value.compareTo(ENDS[k].value) <= 0;
                    is(ENDS[i].text + ":" + ENDS[j].text + ".." + ENDS[k].text, holds ? 1 : 0);
                }
            }
        }
    }
}
