/** Promises 8 to 12: status, value, linkHolds, outcomeCount, nextSolution. */
public final class EvaluationTest {
    private static final Due DUE = new Due();
    private static final String LEAST = "((-2)^63)";
    private static final String GREATEST = "(-((-2)^63+1))";

    public static void main(String[] args) {
        values();
        valuesByReading();
        failures();
        powers();
        functions();
        primes();
        firstFailures();
        chains();
        links();
        outcomes();
        solutions();
        wrongArguments();
        DUE.end();
    }

    /** x is 3, y is -2, z is 0, and the others are 7 for a, 0 for the rest. */
    private static NotationParser withVariables(String text) {
        NotationParser parser = Due.accepted(text);
        parser.setVariable('x' - 'a', 3);
        parser.setVariable('y' - 'a', -2);
        parser.setVariable(0, 7);
        return parser;
    }

    private static void succeeds(String text, long... due) {
        NotationParser parser = withVariables(text);
        for (int reading = 0; reading < 4; reading++) {
            String call = "(" + reading + ") of " + text;
            DUE.same("status" + call, parser.status(reading), NotationParser.SUCCESS);
            DUE.same("value" + call, parser.value(reading), due[due.length == 1 ? 0 : reading]);
        }
    }

    private static void fails(String text, int status) {
        NotationParser parser = withVariables(text);
        for (int reading = 0; reading < 4; reading++) {
            DUE.same("status(" + reading + ") of " + text, parser.status(reading), status);
            DUE.same("value(" + reading + ") of " + text, parser.value(reading), 0);
        }
    }

    private static void values() {
        succeeds("1+2*3", 7);
        succeeds("10-2-3", 5);
        succeeds("100/7/2", 7);
        succeeds("100/7*2", 28);
        succeeds("(-7)/2", -3);
        succeeds("7/(-2)", -3);
        succeeds("-7/2", -3);
        succeeds("-x+5", 2);
        succeeds("-x-5", -8);
        succeeds("-x^2", -9);
        succeeds("-xy", 6);
        succeeds("(-x)^2", 9);
        succeeds("5-(-x)", 8);
        succeeds("000012", 12);
        succeeds("999999", 999999);
        succeeds("2^3^2", 512);
        succeeds("(2^3)^2", 64);
        succeeds("2x^2", 18);
        succeeds("x(y+1)", -3);
        succeeds(LEAST, Long.MIN_VALUE);
        succeeds(GREATEST, Long.MAX_VALUE);
        succeeds("1*" + LEAST, Long.MIN_VALUE);
        succeeds("0*" + LEAST, 0);
        succeeds(LEAST + "/1", Long.MIN_VALUE);
        succeeds(GREATEST + "/(-1)", -Long.MAX_VALUE);
        succeeds(LEAST + "-" + LEAST, 0);
        succeeds("0-" + GREATEST, -Long.MAX_VALUE);
    }

    private static void valuesByReading() {
        succeeds("100/5x", 60, 6, 60, 6);
        succeeds("100/5x*2", 120, 12, 120, 12);
        succeeds("100/5*2x", 120, 120, 120, 120);
        succeeds("sqr2x", 12, 12, 36, 36);
        succeeds("100/sqr2x", 75, 8, 2, 2);
        succeeds("8/2sqr2x", 48, 0, 144, 0);
        succeeds("x^sqr2x", 243, 243, 150094635296999121L, 150094635296999121L);
        succeeds("sqrsqr2x", 48, 48, 1296, 1296);
        succeeds("sqr x^2y", -162, -162, 324, 324);
        succeeds("sqr x^2*y", -162);
        succeeds("100/5dblx", 120, 3, 120, 3);
        succeeds("100/5sgny", -20, -20, -20, -20);
        succeeds("dblsqr2x+1", 25, 25, 73, 73);
    }

    private static void failures() {
        fails(GREATEST + "+1", NotationParser.OVERFLOW);
        fails("1+" + GREATEST, NotationParser.OVERFLOW);
        fails(LEAST + "+(-1)", NotationParser.OVERFLOW);
        fails(LEAST + "-1", NotationParser.OVERFLOW);
        fails("0-" + LEAST, NotationParser.OVERFLOW);
        fails("-" + LEAST, NotationParser.OVERFLOW);
        fails(LEAST + "*(-1)", NotationParser.OVERFLOW);
        fails("(-1)*" + LEAST, NotationParser.OVERFLOW);
        fails("(-1)" + LEAST, NotationParser.OVERFLOW);
        fails(GREATEST + "*2", NotationParser.OVERFLOW);
        fails("2^32*2^32", NotationParser.OVERFLOW);
        fails("2^32*2^31", NotationParser.OVERFLOW);
        fails(LEAST + "/(-1)", NotationParser.OVERFLOW);
        fails("1/0", NotationParser.DIVISION_BY_ZERO);
        fails("0/0", NotationParser.DIVISION_BY_ZERO);
        fails(LEAST + "/z", NotationParser.DIVISION_BY_ZERO);
        fails("1/(x-x)", NotationParser.DIVISION_BY_ZERO);
    }

    private static void powers() {
        succeeds("z^0", 1);
        succeeds("0^0", 1);
        succeeds("0^5", 0);
        succeeds("0^" + GREATEST, 0);
        succeeds("1^" + GREATEST, 1);
        succeeds("(-1)^" + GREATEST, -1);
        succeeds("(-1)^(" + GREATEST + "-1)", 1);
        succeeds("(-1)^0", 1);
        succeeds("x^1", 3);
        succeeds(LEAST + "^0", 1);
        succeeds(LEAST + "^1", Long.MIN_VALUE);
        succeeds("2^62", 1L << 62);
        succeeds("3^39", 4052555153018976267L);
        succeeds("(-3)^39", -4052555153018976267L);
        fails("2^63", NotationParser.OVERFLOW);
        fails("2^64", NotationParser.OVERFLOW);
        fails("2^999999", NotationParser.OVERFLOW);
        fails("2^" + GREATEST, NotationParser.OVERFLOW);
        fails("(-2)^64", NotationParser.OVERFLOW);
        fails("(-2)^65", NotationParser.OVERFLOW);
        fails("3^40", NotationParser.OVERFLOW);
        fails("65536^4", NotationParser.OVERFLOW);
        fails(LEAST + "^2", NotationParser.OVERFLOW);
        fails("2^y", NotationParser.DOMAIN_ERROR);
        fails("0^(-1)", NotationParser.DOMAIN_ERROR);
        fails("1^(-1)", NotationParser.DOMAIN_ERROR);
        fails("(-1)^" + LEAST, NotationParser.DOMAIN_ERROR);
    }

    private static void functions() {
        succeeds("abs y", 2);
        succeeds("abs x", 3);
        succeeds("abs 0", 0);
        succeeds("abs" + GREATEST, Long.MAX_VALUE);
        succeeds("sgn y", -1);
        succeeds("sgn x", 1);
        succeeds("sgn z", 0);
        succeeds("sgn" + LEAST, -1);
        succeeds("sgn" + GREATEST, 1);
        succeeds("sqr y", 4);
        succeeds("sqr (2^31)", 1L << 62);
        succeeds("dbl y", -4);
        succeeds("dbl (2^62-1)", Long.MAX_VALUE - 1);
        succeeds("dbl(-(2^62))", Long.MIN_VALUE);
        fails("abs" + LEAST, NotationParser.OVERFLOW);
        fails("sqr (2^32)", NotationParser.OVERFLOW);
        fails("sqr" + LEAST, NotationParser.OVERFLOW);
        fails("dbl (2^62)", NotationParser.OVERFLOW);
        fails("dbl" + LEAST, NotationParser.OVERFLOW);
    }

    private static void primes() {
        succeeds("sqr'x", 7);
        succeeds("sqr''x", 2);
        succeeds("sqr'''x", 0);
        succeeds("sqr'y", -3);
        succeeds("dbl'x", 2);
        succeeds("dbl''x", 0);
        succeeds("abs'y", -1);
        succeeds("abs'z", 1);
        succeeds("abs''(-1)", 2);
        succeeds("abs'''(-1)", -2);
        succeeds("sgn'(-1)", 1);
        succeeds("sgn'0", 1);
        succeeds("sgn''(-1)", 0);
        succeeds("sgn''(-2)", 1);
        succeeds("sgn''0", -1);
        succeeds("sgn'''(-2)", -1);
        succeeds("sgn'''(-3)", 1);
        succeeds("sgn'''y", -1);
        succeeds("sgn'" + LEAST, 0);
        succeeds("sgn'''(" + GREATEST + "-3)", 0);
        fails("sgn'" + GREATEST, NotationParser.OVERFLOW);
        fails("sgn'''(" + GREATEST + "-2)", NotationParser.OVERFLOW);
        fails("abs'" + LEAST, NotationParser.OVERFLOW);
        fails("sqr'(2^32)", NotationParser.OVERFLOW);
        fails("dbl'(2^62-1)", NotationParser.OVERFLOW);
        succeeds("dbl'(2^62-2)", 2);
        succeeds("dbl''(2^62-3)", 0);
        fails("dbl''(2^62-2)", NotationParser.OVERFLOW);
    }

    private static void firstFailures() {
        fails("1/0+2^y", NotationParser.DIVISION_BY_ZERO);
        fails("2^y+1/0", NotationParser.DOMAIN_ERROR);
        fails("2^63*(1/0)", NotationParser.OVERFLOW);
        fails("(1/0)^(2^y)", NotationParser.DIVISION_BY_ZERO);
        fails("(2^y)^(1/0)", NotationParser.DOMAIN_ERROR);
        fails("0*(1/0)", NotationParser.DIVISION_BY_ZERO);
        fails("1/0=2^y", NotationParser.DIVISION_BY_ZERO);
        fails("1=2^y=1/0", NotationParser.DOMAIN_ERROR);
        fails("1:2^y..1/0", NotationParser.DOMAIN_ERROR);
        fails("1:1/0..2^y", NotationParser.DIVISION_BY_ZERO);
        fails("1=2=1/0", NotationParser.DIVISION_BY_ZERO);
        fails("5:6..1/0", NotationParser.DIVISION_BY_ZERO);
        fails("-1/0", NotationParser.DIVISION_BY_ZERO);
        fails("abs(1/0)", NotationParser.DIVISION_BY_ZERO);
    }

    private static void chains() {
        String[] hold = {"x=3", "3=x=3", "x<4", "x>2", "x<=3", "x>=3", "x!=2", "x<=4", "x>=2", "x:3..3", "x:2..3",
            "x:3..4", "y:-5..0<1", "1<2<3<4<5", "1:0..2<3", "x=3:2..4=4", "x-3=z", "-1<0"};
        String[] fail = {"x=2", "x<3", "x>3", "x<=2", "x>=4", "x!=3", "x:4..5", "x:1..2", "x:4..2", "1<2<2",
            "2<1<3", "1<2<3<4<4", "1:0..2<2", "1:0..2=1", "1<3:1..2", "1=1:2..3=3"};
        for (String text : hold) {
            succeeds(text, 1);
        }
        for (String text : fail) {
            succeeds(text, 0);
        }
        succeeds("100/5x=6", 0, 1, 0, 1);
        succeeds("sqr2x:13..36", 0, 0, 1, 1);
    }

    private static void links() {
        NotationParser parser = withVariables("x<4:1..5>5!=a");
        int[] due = {1, 1, 0, 1, NotationParser.NOT_FOUND, NotationParser.NOT_FOUND};
        for (int reading = 0; reading < 4; reading++) {
            for (int link = 0; link < due.length; link++) {
                DUE.same("linkHolds(" + reading + ", " + link + ")", parser.linkHolds(reading, link), due[link]);
            }
        }
        DUE.same("linkHolds of a far link", parser.linkHolds(0, Integer.MAX_VALUE), NotationParser.NOT_FOUND);
        parser = withVariables("1=1=1/z");
        DUE.same("linkHolds where the formula fails", parser.linkHolds(0, 0), 0);
        DUE.same("linkHolds where the formula fails", parser.linkHolds(0, 1), 0);
        DUE.same("no link where the formula fails", parser.linkHolds(0, 2), NotationParser.NOT_FOUND);
        parser.setVariable(25, 1);
        DUE.same("linkHolds with another z", parser.linkHolds(0, 0), 1);
        parser = withVariables("100/5x=6");
        DUE.same("linkHolds(0, 0)", parser.linkHolds(0, 0), 0);
        DUE.same("linkHolds(1, 0)", parser.linkHolds(1, 0), 1);
        parser = withVariables("1/z");
        DUE.same("no link, and a failure", parser.linkHolds(0, 0), NotationParser.NOT_FOUND);
        parser = withVariables("x:1..2:0..2:2..2");
        DUE.same("first between", parser.linkHolds(3, 0), 0);
        DUE.same("second between", parser.linkHolds(3, 1), 1);
        DUE.same("third between", parser.linkHolds(3, 2), 1);
    }

    private static void outcomes() {
        Object[][] rows = {{"x", 1}, {"1/0", 1}, {"100/5x", 2}, {"sqr2x", 2}, {"100/5sqr2x", 4}, {"8/2sqr2x", 3},
            {"1/2x", 1}, {"1/0+100/5x", 1}, {"1/(z)x", 1}, {"1/(1/2x)", 1}, {"1/(5/2x)", 2},
            {"sqr z x", 1}, {"2^(sqr y x+5)", 2}, {"1/((sqr y x+12)*(6/2x-9))", 2}};
        for (Object[] row : rows) {
            NotationParser parser = withVariables((String) row[0]);
            DUE.same("outcomeCount of " + row[0], parser.outcomeCount(), (Integer) row[1]);
        }
        NotationParser parser = withVariables("100/5x");
        parser.setVariable('x' - 'a', 1);
        DUE.same("outcomeCount with x = 1", parser.outcomeCount(), 1);
        parser.setVariable('x' - 'a', 0);
        DUE.same("a failure and a 0", parser.outcomeCount(), 2);
    }

    private static void solutions() {
        int x = 'x' - 'a';
        NotationParser parser = Due.accepted("x:10..12");
        parser.setVariable(x, 11);
        DUE.same("nextSolution from the least", parser.nextSolution(0, x, -1000), 1010);
        DUE.same("nextSolution from 10", parser.nextSolution(0, x, 10), 1010);
        DUE.same("nextSolution from 11", parser.nextSolution(0, x, 11), 1011);
        DUE.same("nextSolution from 12", parser.nextSolution(0, x, 12), 1012);
        DUE.same("nextSolution from 13", parser.nextSolution(0, x, 13), NotationParser.NOT_FOUND);
        DUE.same("x keeps its value", parser.setVariable(x, 11), 0);
        DUE.same("x keeps its value", parser.value(0), 1);
        DUE.same("an absent variable", parser.nextSolution(0, 0, -7), 993);
        DUE.same("an absent variable keeps its value", parser.setVariable(0, 0), 0);
        parser.setVariable(x, 9);
        DUE.same("an absent variable without solution", parser.nextSolution(0, 0, -7), NotationParser.NOT_FOUND);
        parser = Due.accepted("x");
        DUE.same("the least value", parser.nextSolution(0, x, -1000), 0);
        DUE.same("0 is no solution", parser.nextSolution(0, x, 0), 1001);
        DUE.same("the greatest value", parser.nextSolution(0, x, 1000), 2000);
        parser = Due.accepted("1000/x");
        DUE.same("a failure is no solution", parser.nextSolution(0, x, 0), 1001);
        parser = Due.accepted("x=1000");
        DUE.same("the last value is tried", parser.nextSolution(2, x, -1000), 2000);
        parser = Due.accepted("sqr 2x=36");
        DUE.same("reading 0", parser.nextSolution(0, x, -1000), 1009);
        DUE.same("reading 2", parser.nextSolution(2, x, -1000), 997);
        DUE.same("reading 2, from -2", parser.nextSolution(2, x, -2), 1003);
    }

    private static void wrongArguments() {
        NotationParser parser = withVariables("x=3");
        int wrong = NotationParser.INVALID_ARGUMENT;
        for (int reading : new int[] {-1, 4, Integer.MIN_VALUE, Integer.MAX_VALUE}) {
            DUE.same("status(" + reading + ")", parser.status(reading), wrong);
            DUE.same("value(" + reading + ")", parser.value(reading), 0);
            DUE.same("linkHolds(" + reading + ", 0)", parser.linkHolds(reading, 0), wrong);
            DUE.same("linkHolds(" + reading + ", 9)", parser.linkHolds(reading, 9), wrong);
            DUE.same("nextSolution(" + reading + ", 0, 0)", parser.nextSolution(reading, 0, 0), wrong);
            DUE.same("nextSolution(0, " + (reading < 0 ? reading : 26) + ", 0)",
                parser.nextSolution(0, reading < 0 ? reading : 26, 0), wrong);
        }
        for (int link : new int[] {-1, Integer.MIN_VALUE}) {
            DUE.same("linkHolds(0, " + link + ")", parser.linkHolds(0, link), wrong);
        }
        for (int from : new int[] {-1001, 1001, Integer.MIN_VALUE, Integer.MAX_VALUE}) {
            DUE.same("nextSolution(0, 23, " + from + ")", parser.nextSolution(0, 23, from), wrong);
        }
        DUE.same("nothing has changed", parser.value(0), 1);
    }
}
