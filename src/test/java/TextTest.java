/** Promises 1 to 5 and 21: a new object, append, clearText, syntaxError, accept, textLength. */
public final class TextTest {
    private static final Due DUE = new Due();

    public static void main(String[] args) {
        newObject();
        appending();
        clearing();
        formulas();
        faults();
        faultsOfTokens();
        endsTooEarly();
        checkingOneTextAfterAnother();
        accepting();
        deepTexts();
        DUE.end();
    }

    private static void newObject() {
        NotationParser parser = new NotationParser();
        DUE.same("new textLength()", parser.textLength(), 0);
        DUE.same("new clearText()", parser.clearText(), 0);
        DUE.same("new syntaxError()", parser.syntaxError(), 0);
        for (int reading = 0; reading < 4; reading++) {
            DUE.same("new status", parser.status(reading), NotationParser.SUCCESS);
            DUE.same("new value", parser.value(reading), 0);
            DUE.same("new nodeCount", parser.nodeCount(reading), 1);
            DUE.same("new height", parser.height(reading), 1);
            DUE.same("new printed", Due.printed(parser, reading), "0");
            DUE.same("new spoken", Due.spoken(parser, reading), "0");
            DUE.same("new linkHolds", parser.linkHolds(reading, 0), NotationParser.NOT_FOUND);
        }
        for (int letter = 0; letter < 26; letter++) {
            DUE.same("new occurrences", parser.occurrences(letter), 0);
            DUE.same("new setVariable to 0", parser.setVariable(letter, 0), 0);
        }
        DUE.same("new treeCount()", parser.treeCount(), 1);
        DUE.same("new outcomeCount()", parser.outcomeCount(), 1);
        DUE.same("new appendPrinted(0)", parser.appendPrinted(0), 1);
        DUE.same("accept() of what was printed", parser.accept(), 0);
    }

    private static void appending() {
        NotationParser parser = new NotationParser();
        for (int character : new int[] {31, 127, 0, -1, 65, 1 << 16, (1 << 16) + 65,
                Integer.MIN_VALUE, Integer.MAX_VALUE}) {
            int due = character == 65 ? 1 : NotationParser.INVALID_ARGUMENT;
            DUE.same("append(" + character + ")", parser.append(character), due);
        }
        DUE.same("append(32)", parser.append(32), 2);
        DUE.same("append(126)", parser.append(126), 3);
        for (int length = 4; length <= 80; length++) {
            DUE.same("append to " + length, parser.append('x'), length);
            DUE.same("textLength", parser.textLength(), length);
        }
        DUE.same("append to a full text", parser.append('x'), NotationParser.TEXT_FULL);
        DUE.same("append to a full text again", parser.append('x'), NotationParser.TEXT_FULL);
        DUE.same("append wrong to a full text", parser.append(31), NotationParser.INVALID_ARGUMENT);
        DUE.same("textLength of a full text", parser.textLength(), 80);
    }

    private static void clearing() {
        NotationParser parser = Due.accepted("1+x");
        DUE.same("clearText()", parser.clearText(), 3);
        DUE.same("textLength()", parser.textLength(), 0);
        DUE.same("clearText() again", parser.clearText(), 0);
        DUE.same("value of what was accepted", parser.value(0), 1);
        DUE.same("append after clearText", parser.append('7'), 1);
        DUE.same("syntaxError() after clearText", parser.syntaxError(), NotationParser.NOT_FOUND);
        for (int i = 0; i < 100; i++) {
            parser.append('7');
        }
        DUE.same("clearText() of a full text", parser.clearText(), 80);
    }

    private static void formulas() {
        String[] texts = {"0", "x", "xabsy", " 1 ", "123456", "000000", "xyz", "2x", "2(x)", "(2)x", "x^2y",
            "2^3^4", "x^2^3y", "-x", "-2x-3", "(-x)", "x*(-y)", "x/y*z", "absx", "abs2", "abs'x", "abs'''x",
            "abs ' ' ' x", "sqrsqrx", "xsqr2", "x sqr 2 y", "x^sqr2", "sqr x^2", "x=-1", "x<y", "x>y",
            "x<=y", "x>=y", "x!=y", "x:-1..-2", "x:1..2<3", "1=2=3=4=5", "1:1..2:1..2:1..2:1..2",
            "absabsabsabsx", "bs", "ab s x", "aabsx", "absgn", "((((x))))", "(x)(y)", "dbl(x)(y)^(z)",
            "xabs2", "xsgn2", "xsqr2", "xdbl2", "xbs", "axs", "abx", "ogn", "son", "sgo", "aqr", "sxr", "sqx",
            "abl", "dxl", "dbx", "abs'''sgn'''sqr'''dbl'''x"};
        for (String text : texts) {
            DUE.same("syntaxError of " + text, Due.typed(text).syntaxError(), NotationParser.NOT_FOUND);
        }
    }

    /** In each row a text, and the index of the token that cannot follow. */
    private static void faults() {
        Object[][] rows = {
            {"x)", 1}, {"()", 1}, {"2 3", 2}, {"2x3", 2}, {"x 3", 2}, {"x^2 3", 4}, {"(2)3", 3},
            {"sqr x 2", 6}, {"sqr 2 3", 6}, {"x^sqr y 2", 8}, {"x^y 2", 4}, {"--x", 1}, {"x+-y", 2},
            {"x*-y", 2}, {"x^-1", 2}, {"+x", 0}, {"*x", 0}, {"/", 0}, {"^x", 0}, {")", 0}, {"'", 0},
            {"=x", 0}, {"x=", 2}, {"x'", 1}, {"2'", 1}, {"(x)'", 3}, {"abs x'", 5}, {"abs''''x", 6},
            {"abs'' ' 'x", 8}, {"abs(x'')", 5}, {"abs'+x", 4}, {"abs-x", 3}, {"abs=x", 3},
            {"x..y", 1}, {"x=1..2", 3}, {"x:1=2", 3}, {"x:1:2..3", 3}, {"x:1..2..3", 6}, {"x:..2", 2},
            {"(x=1)", 2}, {"(x:1..2)", 2}, {"x:(1..2)", 4}, {"x:1)..2", 3}, {"1=2=3=4=5=6", 9},
            {"1=2=3=4=5:1..2", 9}, {"1:1..2=2:1..2<3>4", 15}, {"x<=>y", 3}, {"x==y", 2}, {"x<>y", 2},
            {"x< =y", 3}, {"x=<y", 2}, {"x(", 2}, {"x()", 2}, {"(x", 2}, {"(x))", 3},
            {" x  +  * y", 7}, {"-'x", 1}, {"x+'y", 2}, {"x*'y", 2}, {"x^'y", 2}, {"('x)", 1}, {"x='y", 2},
            {"abs'+'x", 4}, {"x:1..'2", 5}, {"x^", 2}, {"x*)", 2}, {"x+=1", 2}, {"(x+)", 3},
        };
        for (Object[] row : rows) {
            checkFault((String) row[0], (Integer) row[1]);
        }
    }

    private static void faultsOfTokens() {
        Object[][] rows = {
            {"1234567", 0}, {"0000000", 0}, {"x+1234567", 2}, {"x+ 12345678y", 3}, {"123456 7", 7},
            {"x!y", 1}, {"x! =y", 1}, {"!=x", 0}, {"3.5", 1}, {"x:1. .2", 3}, {"x:1...2", 5}, {".", 0},
            {"X", 0}, {"xY", 1}, {"x+A", 2}, {"x~", 1}, {"x;", 1}, {"x&y", 1}, {"{x}", 0}, {"x\"", 1},
            {"x`", 1}, {"@", 0}, {"[x]", 0}, {"x,y", 1}, {"x:1..!", 5}, {"ABS x", 0}, {"x!", 1},
        };
        for (Object[] row : rows) {
            checkFault((String) row[0], (Integer) row[1]);
        }
    }

    private static void endsTooEarly() {
        String[] texts = {"", " ", "   ", "(", "-", "x+", "x +  ", "x*", "x^", "abs", "abs'", "abs '  ", "(x",
            "x=", "x:", "x:1", "x:1 ", "x:1..", "((x)", "x(y", "1=2=3=4=", "sqr sqr", "x<= "};
        for (String text : texts) {
            checkFault(text, text.length());
        }
    }

    private static void checkFault(String text, int index) {
        NotationParser parser = Due.typed(text);
        DUE.same("syntaxError of " + text, parser.syntaxError(), index);
        DUE.same("accept of " + text, parser.accept(), NotationParser.NO_FORMULA);
        DUE.same("textLength of " + text, parser.textLength(), text.length());
        DUE.same("what stays accepted after " + text, Due.printed(parser, 3), "0");
    }

    /** Nothing of a text that was checked before stays behind. */
    private static void checkingOneTextAfterAnother() {
        Object[][] rows = {{"((x", 3}, {"x", -3}, {"x)", 1}, {"x:1", 3}, {"x=1", -3}, {"x:1..", 5}, {"x", -3},
            {"1=2=3=4=5=6", 9}, {"1=2=3=4=5", -3}, {"1=2=3=4=5", -3}, {"abs'''", 6}, {"abs'''x", -3},
            {"abs''''x", 6}, {"'", 0}, {"x", -3}, {"", 0}, {"x'", 1}, {"-", 1}, {"-x", -3}};
        NotationParser parser = new NotationParser();
        for (Object[] row : rows) {
            Due.retype(parser, (String) row[0]);
            DUE.same("syntaxError of " + row[0], parser.syntaxError(), (Integer) row[1]);
            DUE.same("syntaxError again of " + row[0], parser.syntaxError(), (Integer) row[1]);
        }
    }

    private static void accepting() {
        Object[][] rows = {{"x", 0}, {"x<y", 1}, {"x<y=z", 2}, {"x:1..2", 1}, {"x:1..2:3..4", 2},
            {"1:1..2:1..2:1..2:1..2", 4}, {"1=2<3>4!=5", 4}, {" x >= y ", 1}};
        for (Object[] row : rows) {
            NotationParser parser = Due.typed((String) row[0]);
            DUE.same("accept of " + row[0], parser.accept(), (Integer) row[1]);
            DUE.same("accept again of " + row[0], parser.accept(), (Integer) row[1]);
            DUE.same("text after accept", parser.textLength(), ((String) row[0]).length());
        }
        NotationParser parser = Due.accepted("7");
        Due.type(parser, "+");
        DUE.same("value while a text is typed", parser.value(0), 7);
        DUE.same("accept of 7+", parser.accept(), NotationParser.NO_FORMULA);
        DUE.same("value after a refused text", parser.value(0), 7);
        DUE.same("printed after a refused text", Due.printed(parser, 0), "7");
        Due.type(parser, "2");
        DUE.same("syntaxError of 7+2", parser.syntaxError(), NotationParser.NOT_FOUND);
        DUE.same("syntaxError accepts nothing", parser.value(0), 7);
        DUE.same("accept of 7+2", parser.accept(), 0);
        DUE.same("value of 7+2", parser.value(0), 9);
        Due.retype(parser, "x=x<2");
        parser.accept();
        Due.retype(parser, "5");
        DUE.same("accept of a shorter formula", parser.accept(), 0);
        DUE.same("no link is left", parser.linkHolds(0, 0), NotationParser.NOT_FOUND);
        DUE.same("no node is left", parser.nodeCount(0), 1);
    }

    private static void deepTexts() {
        DUE.same("80 open brackets", Due.typed("(".repeat(80)).syntaxError(), 80);
        DUE.same("brackets to the end", Due.typed("(".repeat(40) + "x" + ")".repeat(39)).syntaxError(), 80);
        String nested = "(".repeat(39) + "x" + ")".repeat(39);
        NotationParser parser = Due.accepted(nested);
        DUE.same("39 brackets", Due.printed(parser, 0), "x");
        DUE.same("one bracket too many", Due.typed(nested + ")").syntaxError(), 79);
        parser = Due.accepted("(-".repeat(26) + "x" + ")".repeat(26));
        DUE.same("26 negations", parser.height(1), 27);
        parser = Due.accepted("x" + "^x".repeat(39));
        DUE.same("39 powers", parser.height(2), 40);
        parser = Due.accepted("abs".repeat(26) + "x");
        DUE.same("26 functions", parser.height(3), 27);
        parser = Due.accepted("x".repeat(80));
        DUE.same("80 variables", parser.nodeCount(0), 159);
        DUE.same("80 variables' height", parser.height(0), 80);
        DUE.same("80 variables' printed length", parser.printedLength(0), 80 + 79 * 3);
        DUE.same("80 variables' speech length", parser.speechLength(0), 80 + 79 * 4 + 78 * 11);
    }
}
