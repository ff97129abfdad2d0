/**
 * The boundary cases that the document names in 'Readings' and in 'Printing and speech', and for the calls of
 * promises 16 to 20, sentence by sentence.
 */
public final class PrintingBoundsTest {
    private static final int INVALID_ARGUMENT = NotationParser.INVALID_ARGUMENT;
    private static final int NOT_FOUND = NotationParser.NOT_FOUND;
    private static final int TEXT_FULL = NotationParser.TEXT_FULL;
    private static final int[] NO_READINGS = {-1, 4, 5, -2, 256, -256, Integer.MIN_VALUE, Integer.MAX_VALUE};
    private static final Due DUE = new Due();

    public static void main(String[] args) {
        tightAndLooseJuxtaposition();
        wideFunctionsEndWithTheirProduct();
        narrowFunctions();
        narrowFunctionsInExponentsAndArguments();
        powersBehindArguments();
        leadingMinusOfTheFirstTerm();
        leftAndRight();
        noBlanks();
        leadingZeros();
        bracketsOfArguments();
        printedRelations();
        openAndClose();
        functionsAsOperands();
        printedLengths();
        printedIndexes();
        longestPrintedForm();
        speechLengths();
        speechIndexes();
        longestSpeech();
        appendedToTheLastCharacter();
        appendedToAFullText();
        appendedWithAWrongReading();
        appendedTextIsTheText();
        DUE.end();
    }

    private static void prints(String text, String... due) {
        for (int reading = 0; reading < 4; reading++) {
            DUE.same("printed form (" + reading + ") of " + text, Due.printedOf(text, reading),
                due[due.length == 1 ? 0 : reading]);
        }
    }

    private static void speaks(String text, String... due) {
        for (int reading = 0; reading < 4; reading++) {
            DUE.same("speech text (" + reading + ") of " + text, Due.spokenOf(text, reading),
                due[due.length == 1 ? 0 : reading]);
        }
    }

    // ---- readings

    /** "each product ... is multiplied first"; "a juxtaposition is a multiplication with the same precedence". */
    private static void tightAndLooseJuxtaposition() {
        prints("1/2x", "((1/2)*x)", "(1/(2*x))", "((1/2)*x)", "(1/(2*x))");
        prints("2x/1", "((2*x)/1)");
        prints("a*bc", "((a*b)*c)", "(a*(b*c))", "((a*b)*c)", "(a*(b*c))");
        prints("ab*cd/ef", "(((((a*b)*c)*d)/e)*f)", "(((a*b)*(c*d))/(e*f))", "(((((a*b)*c)*d)/e)*f)",
            "(((a*b)*(c*d))/(e*f))");
        prints("a/bcd", "(((a/b)*c)*d)", "(a/((b*c)*d))", "(((a/b)*c)*d)", "(a/((b*c)*d))");
        prints("a/b^2c", "((a/(b^2))*c)", "(a/((b^2)*c))", "((a/(b^2))*c)", "(a/((b^2)*c))");
        prints("a/(b)(c)", "((a/b)*c)", "(a/(b*c))", "((a/b)*c)", "(a/(b*c))");
        prints("a/(bc)d", "((a/(b*c))*d)", "(a/((b*c)*d))", "((a/(b*c))*d)", "(a/((b*c)*d))");
        prints("a-b/cd", "(a-((b/c)*d))", "(a-(b/(c*d)))", "(a-((b/c)*d))", "(a-(b/(c*d)))");
    }

    /** "all following powers up to the next token that cannot continue the product". */
    private static void wideFunctionsEndWithTheirProduct() {
        prints("sqr ab", "(sqr(a)*b)", "(sqr(a)*b)", "sqr((a*b))", "sqr((a*b))");
        for (String operator : new String[] {"+", "-", "*", "/"}) {
            String narrow = "((sqr(a)*b)" + operator + "c)";
            String wide = "(sqr((a*b))" + operator + "c)";
            prints("sqr ab" + operator + "c", narrow, narrow, wide, wide);
        }
        for (String relation : new String[] {"=", "<", ">", "<=", ">=", "!="}) {
            String narrow = "(sqr(a)*b)" + relation + "c";
            String wide = "sqr((a*b))" + relation + "c";
            prints("sqr ab" + relation + "c", narrow, narrow, wide, wide);
        }
        prints("(sqr ab)c", "((sqr(a)*b)*c)", "((sqr(a)*b)*c)", "(sqr((a*b))*c)", "(sqr((a*b))*c)");
        prints("sqr ab:sqr cd..sqr ef", "(sqr(a)*b):(sqr(c)*d)..(sqr(e)*f)", "(sqr(a)*b):(sqr(c)*d)..(sqr(e)*f)",
            "sqr((a*b)):sqr((c*d))..sqr((e*f))", "sqr((a*b)):sqr((c*d))..sqr((e*f))");
        prints("sqr abcd", "(((sqr(a)*b)*c)*d)", "(((sqr(a)*b)*c)*d)", "sqr((((a*b)*c)*d))", "sqr((((a*b)*c)*d))");
        prints("sqr a(b)", "(sqr(a)*b)", "(sqr(a)*b)", "sqr((a*b))", "sqr((a*b))");
        prints("sqr(a)b", "(sqr(a)*b)", "(sqr(a)*b)", "sqr((a*b))", "sqr((a*b))");
        prints("c/sqr ab", "((c/sqr(a))*b)", "(c/(sqr(a)*b))", "(c/sqr((a*b)))", "(c/sqr((a*b)))");
    }

    /** "only the first power that follows the function, and the other powers of that product continue the product". */
    private static void narrowFunctions() {
        prints("sqr 2x", "(sqr(2)*x)", "(sqr(2)*x)", "sqr((2*x))", "sqr((2*x))");
        prints("c sqr ab", "((c*sqr(a))*b)", "((c*sqr(a))*b)", "(c*sqr((a*b)))", "(c*sqr((a*b)))");
        prints("sqr a sqr b", "(sqr(a)*sqr(b))", "(sqr(a)*sqr(b))", "sqr((a*sqr(b)))", "sqr((a*sqr(b)))");
        prints("sqr'a^2b", "(sqr'((a^2))*b)", "(sqr'((a^2))*b)", "sqr'(((a^2)*b))", "sqr'(((a^2)*b))");
        prints("d/c sqr ab", "(((d/c)*sqr(a))*b)", "(d/((c*sqr(a))*b))", "((d/c)*sqr((a*b)))", "(d/(c*sqr((a*b))))");
    }

    /**
     * "If the function stands in an exponent or in the argument of another function, this is the innermost product
     * that contains the whole power with that exponent, or the outermost of these functions."
     */
    private static void narrowFunctionsInExponentsAndArguments() {
        prints("x^sqr 2y", "((x^sqr(2))*y)", "((x^sqr(2))*y)", "(x^sqr((2*y)))", "(x^sqr((2*y)))");
        prints("sqr sqr 2y", "(sqr(sqr(2))*y)", "(sqr(sqr(2))*y)", "sqr(sqr((2*y)))", "sqr(sqr((2*y)))");
        prints("abs sgn sqr 2y", "(abs(sgn(sqr(2)))*y)", "(abs(sgn(sqr(2)))*y)", "abs(sgn(sqr((2*y))))",
            "abs(sgn(sqr((2*y))))");
        prints("x^y^sqr 2z", "((x^(y^sqr(2)))*z)", "((x^(y^sqr(2)))*z)", "(x^(y^sqr((2*z))))", "(x^(y^sqr((2*z))))");
        prints("sqr x^abs 2y", "(sqr((x^abs(2)))*y)", "(sqr((x^abs(2)))*y)", "sqr((x^abs((2*y))))",
            "sqr((x^abs((2*y))))");
        prints("x^sqr abs 2y", "((x^sqr(abs(2)))*y)", "((x^sqr(abs(2)))*y)", "(x^sqr(abs((2*y))))",
            "(x^sqr(abs((2*y))))");
        prints("a/x^sqr 2y", "((a/(x^sqr(2)))*y)", "(a/((x^sqr(2))*y))", "(a/(x^sqr((2*y))))", "(a/(x^sqr((2*y))))");
        prints("a/(x^sqr 2y)z", "((a/((x^sqr(2))*y))*z)", "(a/(((x^sqr(2))*y)*z))", "((a/(x^sqr((2*y))))*z)",
            "(a/((x^sqr((2*y)))*z))");
        prints("x^(sqr 2y)z", "((x^(sqr(2)*y))*z)", "((x^(sqr(2)*y))*z)", "((x^sqr((2*y)))*z)", "((x^sqr((2*y)))*z)");
        prints("sqr x abs yz", "((sqr(x)*abs(y))*z)", "((sqr(x)*abs(y))*z)", "sqr((x*abs((y*z))))",
            "sqr((x*abs((y*z))))");
    }

    /** "A ^ behind the argument of a function always belongs to the last power of the argument." */
    private static void powersBehindArguments() {
        prints("sqr x^2", "sqr((x^2))");
        prints("sqr(x)^2", "sqr((x^2))");
        prints("(sqr x)^2", "(sqr(x)^2)");
        prints("sqr 2x^3", "(sqr(2)*(x^3))", "(sqr(2)*(x^3))", "sqr((2*(x^3)))", "sqr((2*(x^3)))");
        prints("sqr sqr x^2", "sqr(sqr((x^2)))");
        prints("x^sqr y^2", "(x^sqr((y^2)))");
        prints("sqr'''x^abs y^2", "sqr'''((x^abs((y^2))))");
    }

    /** "A leading minus sign negates the first term of its sum as a whole." */
    private static void leadingMinusOfTheFirstTerm() {
        prints("-xy", "(-(x*y))");
        prints("-x^2", "(-(x^2))");
        prints("-x*y/z", "(-((x*y)/z))");
        prints("-x+y", "((-x)+y)");
        prints("-x-y", "((-x)-y)");
        prints("-x=-y", "(-x)=(-y)");
        prints("-x:-y..-z", "(-x):(-y)..(-z)");
        prints("(-x)y", "((-x)*y)");
        prints("-sqr xy", "(-(sqr(x)*y))", "(-(sqr(x)*y))", "(-sqr((x*y)))", "(-sqr((x*y)))");
    }

    /** "+ and - are combined from left to right. The operator ^ is right-associative". */
    private static void leftAndRight() {
        prints("a-b-c", "((a-b)-c)");
        prints("a+b-c+d", "(((a+b)-c)+d)");
        prints("a/b/c", "((a/b)/c)");
        prints("a*b/c*d", "(((a*b)/c)*d)");
        prints("a^b^c^d", "(a^(b^(c^d)))");
        prints("(a^b)^c", "((a^b)^c)");
        prints("a^b*c^d", "((a^b)*(c^d))");
    }

    // ---- printing

    /** "The printed form of a tree contains no blanks." */
    private static void noBlanks() {
        prints("  a  +  b  =  - abs '  c  ", "(a+b)=(-abs'(c))");
        prints(" x : 1 .. 2 ", "x:1..2");
        prints(" ".repeat(79) + "x", "x");
    }

    /** "A number is printed without leading zeros"; "A number is spoken as its printed form". */
    private static void leadingZeros() {
        String[][] rows = {{"0", "0"}, {"00", "0"}, {"000000", "0"}, {"1", "1"}, {"01", "1"}, {"000001", "1"},
            {"10", "10"}, {"010", "10"}, {"000010", "10"}, {"100000", "100000"}, {"099999", "99999"},
            {"999999", "999999"}, {"123456", "123456"}, {"101010", "101010"}, {"001000", "1000"}, {"9", "9"},
            {"99", "99"}, {"999", "999"}, {"9999", "9999"}, {"99999", "99999"}, {"1000", "1000"}, {"10000", "10000"}};
        for (String[] row : rows) {
            prints(row[0], row[1]);
            speaks(row[0], row[1]);
            prints("x+" + row[0], "(x+" + row[1] + ")");
        }
    }

    /** "the brackets that a binary operation or a negation prints itself are printed as well". */
    private static void bracketsOfArguments() {
        prints("abs x", "abs(x)");
        prints("abs 7", "abs(7)");
        prints("abs((x))", "abs(x)");
        prints("abs(-x)", "abs((-x))");
        prints("abs(x+y)", "abs((x+y))");
        prints("abs abs x", "abs(abs(x))");
        prints("-(-x)", "(-(-x))");
        prints("sgn'x", "sgn'(x)");
        prints("dbl''x", "dbl''(x)");
        prints("sqr'''x", "sqr'''(x)");
    }

    /** "Links are printed as the relation and the sum, or as :x..y." */
    private static void printedRelations() {
        prints("a=b<c>d<=e", "a=b<c>d<=e");
        prints("a>=b!=c", "a>=b!=c");
        prints("a:b..c", "a:b..c");
        prints("a:b..c:d..e:f..g:h..i", "a:b..c:d..e:f..g:h..i");
        speaks("a=b<c>d<=e", "a equals b below c above d upto e");
        speaks("a>=b!=c", "a downto b unlike c");
        speaks("a:b..c:d..e", "a from b to c from d to e");
    }

    // ---- speech

    /** "If an operand ... is itself a negation or a binary operation, it is spoken as open, the operand, close." */
    private static void openAndClose() {
        String[][] operators = {{"+", "plus"}, {"-", "minus"}, {"*", "times"}, {"", "by"}, {"/", "over"}, {"^", "to"}};
        for (String[] outer : operators) {
            speaks("a" + outer[0] + "b", "a " + outer[1] + " b");
            speaks("(-a)" + outer[0] + "b", "open minus a close " + outer[1] + " b");
            speaks("a" + outer[0] + "(-b)", "a " + outer[1] + " open minus b close");
            for (String[] inner : operators) {
                String operation = "(a" + inner[0] + "b)";
                String spoken = "open a " + inner[1] + " b close";
                speaks(operation + outer[0] + "c", spoken + " " + outer[1] + " c");
                speaks("c" + outer[0] + operation, "c " + outer[1] + " " + spoken);
                speaks("-" + operation, "minus " + spoken);
                speaks("abs" + operation, "abs of " + spoken);
                speaks("x=" + operation, "x equals a " + inner[1] + " b");
            }
        }
        speaks("-x", "minus x");
        speaks("-(-x)", "minus open minus x close");
        speaks("(x)", "x");
        speaks("((a+b))", "a plus b");
        speaks("sqr 2x", "sqr of 2 by x", "sqr of 2 by x", "sqr of open 2 by x close", "sqr of open 2 by x close");
        speaks("1/2x", "open 1 over 2 close by x", "1 over open 2 by x close", "open 1 over 2 close by x",
            "1 over open 2 by x close");
    }

    /** "A function is spoken as abs of x ...": it needs no open and close, and its prime is said before of. */
    private static void functionsAsOperands() {
        for (String name : new String[] {"abs", "sgn", "sqr", "dbl"}) {
            speaks(name + " x", name + " of x");
            speaks(name + "'x", name + " prime of x");
            speaks(name + "''x", name + " prime prime of x");
            speaks(name + "'''x", name + " prime prime prime of x");
            speaks("-" + name + " 1", "minus " + name + " of 1");
            speaks("1+" + name + " 2", "1 plus " + name + " of 2");
            speaks(name + " 2-1", name + " of 2 minus 1");
            speaks(name + "'abs''2", name + " prime of abs prime prime of 2");
            speaks(name + "(-x)", name + " of open minus x close");
        }
    }

    // ---- the calls

    /** "Returns the number of characters; INVALID_ARGUMENT if reading is out of range." */
    private static void printedLengths() {
        NotationParser parser = Due.accepted("sqr 2x");
        for (int reading = 0; reading <= 3; reading++) {
            DUE.same("printedLength(" + reading + ")", parser.printedLength(reading), 10);
            DUE.same("printedLength(" + reading + ") of 0", new NotationParser().printedLength(reading), 1);
        }
        for (int reading : NO_READINGS) {
            DUE.same("printedLength(" + reading + ")", parser.printedLength(reading), INVALID_ARGUMENT);
        }
    }

    /** "INVALID_ARGUMENT if reading is out of range or index is negative; NOT_FOUND if there is no such character." */
    private static void printedIndexes() {
        NotationParser parser = Due.accepted("1/2x");
        String[] due = {"((1/2)*x)", "(1/(2*x))", "((1/2)*x)", "(1/(2*x))"};
        for (int reading = 0; reading <= 3; reading++) {
            for (int index = 0; index <= 10; index++) {
                DUE.same("printedCharacter(" + reading + ", " + index + ")", parser.printedCharacter(reading, index),
                    index < 9 ? due[reading].charAt(index) : NOT_FOUND);
            }
            DUE.same("a far index", parser.printedCharacter(reading, Integer.MAX_VALUE), NOT_FOUND);
            DUE.same("index -1", parser.printedCharacter(reading, -1), INVALID_ARGUMENT);
            DUE.same("the least index", parser.printedCharacter(reading, Integer.MIN_VALUE), INVALID_ARGUMENT);
        }
        for (int reading : NO_READINGS) {
            for (int index : new int[] {0, 8, 9, 1000, -1, Integer.MAX_VALUE, Integer.MIN_VALUE}) {
                DUE.same("printedCharacter(" + reading + ", " + index + ")", parser.printedCharacter(reading, index),
                    INVALID_ARGUMENT);
            }
        }
        DUE.same("the character of a new object", new NotationParser().printedCharacter(3, 0), '0');
        DUE.same("behind the character of a new object", new NotationParser().printedCharacter(3, 1), NOT_FOUND);
    }

    /** "Returns the number of characters": texts of 80 characters, which print the most. */
    private static void longestPrintedForm() {
        String text = "x".repeat(80);
        prints(text, "(".repeat(79) + "x" + "*x)".repeat(79));
        NotationParser parser = Due.accepted(text);
        DUE.same("printedLength(0)", parser.printedLength(0), 317);
        DUE.same("printedCharacter(0, 316)", parser.printedCharacter(0, 316), ')');
        DUE.same("printedCharacter(0, 317)", parser.printedCharacter(0, 317), NOT_FOUND);
        prints("x" + "^x".repeat(39), "(x^".repeat(39) + "x" + ")".repeat(39));
        prints("abs".repeat(26) + "x", "abs(".repeat(26) + "x" + ")".repeat(26));
        prints("(-".repeat(26) + "x" + ")".repeat(26), "(-".repeat(26) + "x" + ")".repeat(26));
        prints("(".repeat(39) + "10" + ")".repeat(39), "10");
    }

    /** "Returns the number of characters; INVALID_ARGUMENT if reading is out of range." */
    private static void speechLengths() {
        NotationParser parser = Due.accepted("sqr 2x");
        int[] due = {13, 13, 24, 24};
        for (int reading = 0; reading <= 3; reading++) {
            DUE.same("speechLength(" + reading + ")", parser.speechLength(reading), due[reading]);
            DUE.same("speechLength(" + reading + ") of 0", new NotationParser().speechLength(reading), 1);
        }
        for (int reading : NO_READINGS) {
            DUE.same("speechLength(" + reading + ")", parser.speechLength(reading), INVALID_ARGUMENT);
        }
    }

    /** "INVALID_ARGUMENT if reading is out of range or index is negative; NOT_FOUND if there is no such character." */
    private static void speechIndexes() {
        NotationParser parser = Due.accepted("sqr 2x");
        String[] due = {"sqr of 2 by x", "sqr of 2 by x", "sqr of open 2 by x close", "sqr of open 2 by x close"};
        for (int reading = 0; reading <= 3; reading++) {
            for (int index = 0; index <= 25; index++) {
                DUE.same("speechCharacter(" + reading + ", " + index + ")", parser.speechCharacter(reading, index),
                    index < due[reading].length() ? due[reading].charAt(index) : NOT_FOUND);
            }
            DUE.same("a far index", parser.speechCharacter(reading, Integer.MAX_VALUE), NOT_FOUND);
            DUE.same("index -1", parser.speechCharacter(reading, -1), INVALID_ARGUMENT);
            DUE.same("the least index", parser.speechCharacter(reading, Integer.MIN_VALUE), INVALID_ARGUMENT);
        }
        for (int reading : NO_READINGS) {
            for (int index : new int[] {0, 12, 13, 1000, -1, Integer.MAX_VALUE, Integer.MIN_VALUE}) {
                DUE.same("speechCharacter(" + reading + ", " + index + ")", parser.speechCharacter(reading, index),
                    INVALID_ARGUMENT);
            }
        }
        DUE.same("the speech of a new object", new NotationParser().speechCharacter(3, 0), '0');
        DUE.same("behind the speech of a new object", new NotationParser().speechCharacter(3, 1), NOT_FOUND);
    }

    /** "Returns the number of characters": texts of 80 characters, which are spoken longest. */
    private static void longestSpeech() {
        String text = "x".repeat(80);
        speaks(text, "open ".repeat(78) + "x by x" + " close by x".repeat(78));
        NotationParser parser = Due.accepted(text);
        DUE.same("speechLength(0)", parser.speechLength(0), 1254);
        DUE.same("speechCharacter(0, 1253)", parser.speechCharacter(0, 1253), 'x');
        DUE.same("speechCharacter(0, 1254)", parser.speechCharacter(0, 1254), NOT_FOUND);
        speaks("x" + "*x".repeat(39), "open ".repeat(38) + "x times x" + " close times x".repeat(38));
        speaks("x" + "^x".repeat(39), "x to " + "open x to ".repeat(38) + "x" + " close".repeat(38));
        speaks("(-".repeat(26) + "x" + ")".repeat(26),
            "minus " + "open minus ".repeat(25) + "x" + " close".repeat(25));
        speaks("sgn'''".repeat(13) + "x", "sgn prime prime prime of ".repeat(13) + "x");
        speaks("x" + "-x".repeat(35) + "<=x<=x<=x",
            "open ".repeat(34) + "x minus x" + " close minus x".repeat(34) + " upto x upto x upto x");
    }

    /** "Returns the new length of the text"; "TEXT_FULL if the text would become longer than 80 characters." */
    private static void appendedToTheLastCharacter() {
        for (int length = 0; length <= 80; length++) {
            NotationParser parser = Due.accepted("1/2x");
            Due.retype(parser, " ".repeat(length));
            boolean fits = length + 9 <= 80;
            DUE.same("appendPrinted(1) at " + length, parser.appendPrinted(1), fits ? length + 9 : TEXT_FULL);
            DUE.same("textLength()", parser.textLength(), fits ? length + 9 : length);
            DUE.same("syntaxError()", parser.syntaxError(), fits ? NOT_FOUND : length);
        }
        NotationParser parser = Due.accepted("x".repeat(20) + "+0");
        parser.clearText();
        DUE.same("a printed form of 81 characters", parser.printedLength(0), 81);
        DUE.same("appendPrinted of it", parser.appendPrinted(0), TEXT_FULL);
        DUE.same("textLength()", parser.textLength(), 0);
        parser = Due.accepted("x".repeat(20) + "=x");
        parser.clearText();
        DUE.same("a printed form of 79 characters", parser.printedLength(0), 79);
        DUE.same("appendPrinted of it", parser.appendPrinted(0), 79);
        parser = Due.accepted("x".repeat(20) + "=10");
        parser.clearText();
        DUE.same("a printed form of 80 characters", parser.printedLength(0), 80);
        DUE.same("appendPrinted of it", parser.appendPrinted(0), 80);
        DUE.same("accept of it", parser.accept(), 1);
        DUE.same("a character more", parser.append('0'), TEXT_FULL);
        parser = Due.accepted("x".repeat(80));
        parser.clearText();
        DUE.same("a printed form of 317 characters", parser.appendPrinted(2), TEXT_FULL);
        DUE.same("textLength()", parser.textLength(), 0);
    }

    /** "TEXT_FULL if the text would become longer than 80 characters." */
    private static void appendedToAFullText() {
        NotationParser parser = new NotationParser();
        for (int length = 1; length <= 80; length++) {
            DUE.same("appendPrinted(0) of 0", parser.appendPrinted(0), length);
        }
        DUE.same("appendPrinted(0) to a full text", parser.appendPrinted(0), TEXT_FULL);
        DUE.same("append to a full text", parser.append('0'), TEXT_FULL);
        DUE.same("textLength()", parser.textLength(), 80);
        DUE.same("clearText()", parser.clearText(), 80);
        DUE.same("appendPrinted(3) after clearText()", parser.appendPrinted(3), 1);
    }

    /** "INVALID_ARGUMENT if reading is out of range". */
    private static void appendedWithAWrongReading() {
        for (int length : new int[] {0, 71, 72, 80}) {
            for (int reading : NO_READINGS) {
                NotationParser parser = Due.accepted("1/2x");
                Due.retype(parser, "x".repeat(length));
                DUE.same("appendPrinted(" + reading + ")", parser.appendPrinted(reading), INVALID_ARGUMENT);
                DUE.same("textLength()", parser.textLength(), length);
            }
        }
    }

    /** "Appends the printed form of the accepted formula to the formula text." */
    private static void appendedTextIsTheText() {
        String[] texts = {"1/2x", "sqr 2x", "-a-b", "abs'''x^2", "x:1..-2<=sqr 2y", "007", "1/2sqr 2x!=ab*cd"};
        for (String text : texts) {
            for (int reading = 0; reading <= 3; reading++) {
                String printed = Due.printedOf(text, reading);
                NotationParser parser = Due.accepted(text);
                parser.clearText();
                DUE.same("appendPrinted(" + reading + ")", parser.appendPrinted(reading), printed.length());
                DUE.same("accept of what " + text + " printed", parser.accept() < 0 ? 1 : 0, 0);
                for (int other = 0; other <= 3; other++) {
                    DUE.same("printed form of " + printed, Due.printed(parser, other), printed);
                }
            }
        }
        NotationParser parser = Due.accepted("x+1");
        Due.type(parser, "*2-");
        DUE.same("appendPrinted behind x+1*2-", parser.appendPrinted(0), 11);
        DUE.same("accept of x+1*2-(x+1)", parser.accept(), 0);
        DUE.same("its printed form", Due.printed(parser, 0), "((x+(1*2))-(x+1))");
        Due.retype(parser, "1+");
        parser.appendPrinted(0);
        DUE.same("appended to a text that ended too early", parser.syntaxError(), NOT_FOUND);
        Due.retype(parser, ")");
        DUE.same("appendPrinted behind a faulty text", parser.appendPrinted(0), 18);
        DUE.same("the fault stays", parser.syntaxError(), 0);
    }
}
