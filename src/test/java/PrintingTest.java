/** Promises 16 to 20: the printed form, the speech text and appendPrinted. */
public final class PrintingTest {
    private static final Due DUE = new Due();

    public static void main(String[] args) {
        printing();
        printingByReading();
        speaking();
        speakingByReading();
        indexes();
        appendingPrinted();
        appendingToTheLast();
        DUE.end();
    }

    private static void prints(String text, String... due) {
        NotationParser parser = Due.accepted(text);
        for (int reading = 0; reading < 4; reading++) {
            String expected = due[due.length == 1 ? 0 : reading];
            DUE.same("printed(" + reading + ") of " + text, Due.printed(parser, reading), expected);
            DUE.same("printedLength(" + reading + ") of " + text, parser.printedLength(reading), expected.length());
        }
    }

    private static void speaks(String text, String... due) {
        NotationParser parser = Due.accepted(text);
        for (int reading = 0; reading < 4; reading++) {
            String expected = due[due.length == 1 ? 0 : reading];
            DUE.same("spoken(" + reading + ") of " + text, Due.spoken(parser, reading), expected);
            DUE.same("speechLength(" + reading + ") of " + text, parser.speechLength(reading), expected.length());
        }
    }

    private static void printing() {
        prints("007", "7");
        prints("000", "0");
        prints("000100", "100");
        prints("123456", "123456");
        prints("10", "10");
        prints(" x ", "x");
        prints("-x", "(-x)");
        prints("-0", "(-0)");
        prints("(((x)))", "x");
        prints("1+2-3", "((1+2)-3)");
        prints("1+2*3", "(1+(2*3))");
        prints("a*b/c", "((a*b)/c)");
        prints("xyz", "((x*y)*z)");
        prints("x^y^z", "(x^(y^z))");
        prints("(x^y)^z", "((x^y)^z)");
        prints("-x^2+y", "((-(x^2))+y)");
        prints("-xy*z-1", "((-((x*y)*z))-1)");
        prints("abs x", "abs(x)");
        prints("sgn'x", "sgn'(x)");
        prints("sqr''x", "sqr''(x)");
        prints("dbl'''(x+1)", "dbl'''((x+1))");
        prints("abs(-x)", "abs((-x))");
        prints("absabsx", "abs(abs(x))");
        prints("abs x^2", "abs((x^2))");
        prints("(abs x)^2", "(abs(x)^2)");
        prints("a=b<c>d<=e", "a=b<c>d<=e");
        prints("a>=b!=c", "a>=b!=c");
        prints("a + b : c * d .. - e", "(a+b):(c*d)..(-e)");
    }

    private static void printingByReading() {
        prints("1/2x", "((1/2)*x)", "(1/(2*x))", "((1/2)*x)", "(1/(2*x))");
        prints("a*b c*d", "(((a*b)*c)*d)", "((a*(b*c))*d)", "(((a*b)*c)*d)", "((a*(b*c))*d)");
        prints("a/bc/de", "((((a/b)*c)/d)*e)", "((a/(b*c))/(d*e))", "((((a/b)*c)/d)*e)", "((a/(b*c))/(d*e))");
        prints("sqr 2x", "(sqr(2)*x)", "(sqr(2)*x)", "sqr((2*x))", "sqr((2*x))");
        prints("sqr 2x y", "((sqr(2)*x)*y)", "((sqr(2)*x)*y)", "sqr(((2*x)*y))", "sqr(((2*x)*y))");
        prints("sqr 2x*y", "((sqr(2)*x)*y)", "((sqr(2)*x)*y)", "(sqr((2*x))*y)", "(sqr((2*x))*y)");
        prints("x^sqr 2y", "((x^sqr(2))*y)", "((x^sqr(2))*y)", "(x^sqr((2*y)))", "(x^sqr((2*y)))");
        prints("sqr sqr 2y", "(sqr(sqr(2))*y)", "(sqr(sqr(2))*y)", "sqr(sqr((2*y)))", "sqr(sqr((2*y)))");
        prints("sqr x^abs y z", "(sqr((x^abs(y)))*z)", "(sqr((x^abs(y)))*z)", "sqr((x^abs((y*z))))",
            "sqr((x^abs((y*z))))");
        prints("a/b sqr c d", "(((a/b)*sqr(c))*d)", "(a/((b*sqr(c))*d))", "((a/b)*sqr((c*d)))",
            "(a/(b*sqr((c*d))))");
        prints("a/sqr b c/d", "(((a/sqr(b))*c)/d)", "((a/(sqr(b)*c))/d)", "((a/sqr((b*c)))/d)",
            "((a/sqr((b*c)))/d)");
        prints("abs'x y^2", "(abs'(x)*(y^2))", "(abs'(x)*(y^2))", "abs'((x*(y^2)))", "abs'((x*(y^2)))");
        prints("x^y^sqr 2z", "((x^(y^sqr(2)))*z)", "((x^(y^sqr(2)))*z)", "(x^(y^sqr((2*z))))",
            "(x^(y^sqr((2*z))))");
        prints("a*(b/sqr c d)e", "((a*((b/sqr(c))*d))*e)", "(a*((b/(sqr(c)*d))*e))", "((a*(b/sqr((c*d))))*e)",
            "(a*((b/sqr((c*d)))*e))");
        prints("-a b/c d", "(-(((a*b)/c)*d))", "(-((a*b)/(c*d)))", "(-(((a*b)/c)*d))", "(-((a*b)/(c*d)))");
        prints("a/b c<d:sqr e f..g", "((a/b)*c)<d:(sqr(e)*f)..g", "(a/(b*c))<d:(sqr(e)*f)..g",
            "((a/b)*c)<d:sqr((e*f))..g", "(a/(b*c))<d:sqr((e*f))..g");
    }

    private static void speaking() {
        speaks("007", "7");
        speaks("120", "120");
        speaks("x", "x");
        speaks("-x", "minus x");
        speaks("a+b", "a plus b");
        speaks("a-b", "a minus b");
        speaks("a*b", "a times b");
        speaks("ab", "a by b");
        speaks("a/b", "a over b");
        speaks("a^b", "a to b");
        speaks("a+b-c", "open a plus b close minus c");
        speaks("a+b*c", "a plus open b times c close");
        speaks("a^b^c", "a to open b to c close");
        speaks("-(a+b)", "minus open a plus b close");
        speaks("-a+b", "open minus a close plus b");
        speaks("a-(-b)", "a minus open minus b close");
        speaks("-(-a)", "minus open minus a close");
        speaks("-a*b", "minus open a times b close");
        speaks("abs x", "abs of x");
        speaks("sgn'x", "sgn prime of x");
        speaks("sqr''x", "sqr prime prime of x");
        speaks("dbl'''5", "dbl prime prime prime of 5");
        speaks("abs(-x)", "abs of open minus x close");
        speaks("abs(a+b)", "abs of open a plus b close");
        speaks("abs sqr x", "abs of sqr of x");
        speaks("abs x+1", "abs of x plus 1");
        speaks("-abs x", "minus abs of x");
        speaks("1-abs x", "1 minus abs of x");
        speaks("a=b<c>d<=e", "a equals b below c above d upto e");
        speaks("a>=b!=c", "a downto b unlike c");
        speaks("a:b..c", "a from b to c");
        speaks("a+b:-c..d^e=f", "a plus b from minus c to d to e equals f");
    }

    private static void speakingByReading() {
        speaks("1/2x", "open 1 over 2 close by x", "1 over open 2 by x close", "open 1 over 2 close by x",
            "1 over open 2 by x close");
        speaks("sqr 2x", "sqr of 2 by x", "sqr of 2 by x", "sqr of open 2 by x close", "sqr of open 2 by x close");
        speaks("x^sqr 2y", "open x to sqr of 2 close by y", "open x to sqr of 2 close by y",
            "x to sqr of open 2 by y close", "x to sqr of open 2 by y close");
    }

    private static void indexes() {
        NotationParser parser = Due.accepted("1/2x");
        DUE.same("printedCharacter at the end", parser.printedCharacter(1, 9), NotationParser.NOT_FOUND);
        DUE.same("last printedCharacter", parser.printedCharacter(1, 8), ')');
        int end = parser.speechLength(1);
        DUE.same("speechCharacter at the end", parser.speechCharacter(1, end), NotationParser.NOT_FOUND);
        DUE.same("last speechCharacter", parser.speechCharacter(1, end - 1), 'e');
        int far = Integer.MAX_VALUE;
        DUE.same("a far printedCharacter", parser.printedCharacter(0, far), NotationParser.NOT_FOUND);
        DUE.same("a far speechCharacter", parser.speechCharacter(0, far), NotationParser.NOT_FOUND);
        int wrong = NotationParser.INVALID_ARGUMENT;
        for (int bad : new int[] {-1, Integer.MIN_VALUE}) {
            DUE.same("printedCharacter before 0", parser.printedCharacter(0, bad), wrong);
            DUE.same("speechCharacter before 0", parser.speechCharacter(0, bad), wrong);
        }
        for (int reading : new int[] {-1, 4, Integer.MIN_VALUE, Integer.MAX_VALUE}) {
            DUE.same("printedLength", parser.printedLength(reading), wrong);
            DUE.same("speechLength", parser.speechLength(reading), wrong);
            DUE.same("printedCharacter", parser.printedCharacter(reading, 0), wrong);
            DUE.same("printedCharacter, far", parser.printedCharacter(reading, far), wrong);
            DUE.same("speechCharacter", parser.speechCharacter(reading, 0), wrong);
            DUE.same("speechCharacter, far", parser.speechCharacter(reading, far), wrong);
            DUE.same("appendPrinted", parser.appendPrinted(reading), wrong);
        }
        Due.retype(parser, "x");
        parser.accept();
        DUE.same("nothing is left of the longer text", parser.printedCharacter(0, 1), NotationParser.NOT_FOUND);
        DUE.same("nothing is left of the longer speech", parser.speechCharacter(0, 1), NotationParser.NOT_FOUND);
    }

    private static void appendingPrinted() {
        NotationParser parser = Due.accepted("1/2x");
        DUE.same("appendPrinted(1)", parser.appendPrinted(1), 13);
        DUE.same("syntaxError of 1/2x(1/(2*x))", parser.syntaxError(), NotationParser.NOT_FOUND);
        DUE.same("printed form of what was accepted", Due.printed(parser, 1), "(1/(2*x))");
        DUE.same("accept()", parser.accept(), 0);
        DUE.same("printed form of both", Due.printed(parser, 1), "(1/((2*x)*(1/(2*x))))");
        Due.retype(parser, "a = b : c .. d");
        parser.accept();
        parser.clearText();
        DUE.same("appendPrinted of a chain", parser.appendPrinted(2), 8);
        DUE.same("accept of a chain", parser.accept(), 2);
    }

    private static void appendingToTheLast() {
        NotationParser parser = Due.accepted("123456*x");
        parser.clearText();
        for (int length = 10; length <= 80; length += 10) {
            DUE.same("appendPrinted(0)", parser.appendPrinted(0), length);
        }
        DUE.same("appendPrinted to a full text", parser.appendPrinted(0), NotationParser.TEXT_FULL);
        DUE.same("appendPrinted(4) to a full text", parser.appendPrinted(4), NotationParser.INVALID_ARGUMENT);
        DUE.same("textLength()", parser.textLength(), 80);
        Due.retype(parser, "1".repeat(71));
        DUE.same("appendPrinted one too long", parser.appendPrinted(3), NotationParser.TEXT_FULL);
        DUE.same("textLength after it", parser.textLength(), 71);
        Due.retype(parser, "1".repeat(70));
        DUE.same("appendPrinted to the last character", parser.appendPrinted(3), 80);
        parser = Due.accepted("x".repeat(80));
        parser.clearText();
        DUE.same("a printed form longer than the text", parser.appendPrinted(0), NotationParser.TEXT_FULL);
        DUE.same("textLength stays 0", parser.textLength(), 0);
    }
}
