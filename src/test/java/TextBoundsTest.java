/**
 * The boundary cases that the document names for the formula text, sentence by sentence: 'Formula text'
 * and promises 1 to 5 and 21. Above each method stands its sentence.
 */
public final class TextBoundsTest {
    private static final int FORMULA = NotationParser.NOT_FOUND;
    private static final Due DUE = new Due();

    public static void main(String[] args) {
        characterRange();
        newLength();
        fullText();
        formulaOfEightyCharacters();
        lengthThatTheTextHad();
        lengthsFromNoneToEighty();
        emptyTextAndFormulaZero();
        blanks();
        sixDigits();
        functionNames();
        variableLetters();
        everyCharacterAlone();
        everyPairOfCharacters();
        longestTokens();
        functionNamesInLetters();
        leadingMinus();
        powersThatStartWithNumbers();
        threePrimes();
        fourLinks();
        linkBetween();
        firstFaultOfAll();
        textsThatEndTooEarly();
        numberOfLinks();
        acceptedUntilAnother();
        DUE.end();
    }

    private static void fault(String text, int due) {
        NotationParser parser = Due.typed(text);
        DUE.same("syntaxError of \"" + text + "\"", parser.syntaxError(), due);
        DUE.same("accept of \"" + text + "\" is refused", parser.accept() < 0 ? 1 : 0, due == FORMULA ? 0 : 1);
    }

    private static void formula(String text) {
        fault(text, FORMULA);
    }

    private static void endsTooEarly(String text) {
        fault(text, text.length());
    }

    // ---- append, clearText, textLength, a new object

    /** "character: a character code, 32 to 126"; "INVALID_ARGUMENT if character is out of range". */
    private static void characterRange() {
        for (int character = -200; character <= 400; character++) {
            NotationParser parser = new NotationParser();
            boolean inRange = character >= 32 && character <= 126;
            DUE.same("append(" + character + ")", parser.append(character), inRange ? 1 : -1);
            DUE.same("textLength after append(" + character + ")", parser.textLength(), inRange ? 1 : 0);
        }
        for (int character : new int[] {Integer.MIN_VALUE, Integer.MAX_VALUE, 65536 + 49, 256 + 49, 49 - 256}) {
            NotationParser parser = new NotationParser();
            DUE.same("append(" + character + ")", parser.append(character), NotationParser.INVALID_ARGUMENT);
            DUE.same("textLength after append(" + character + ")", parser.textLength(), 0);
        }
    }

    /** "Returns the new length of the text". */
    private static void newLength() {
        NotationParser parser = new NotationParser();
        for (int length = 1; length <= 80; length++) {
            DUE.same("append to length " + length, parser.append(32 + length % 95), length);
        }
    }

    /** "TEXT_FULL if the text already has 80 characters." */
    private static void fullText() {
        NotationParser parser = Due.typed("1".repeat(78));
        DUE.same("the 79th character", parser.append('1'), 79);
        DUE.same("the 80th character", parser.append('1'), 80);
        DUE.same("the 81st character", parser.append('1'), NotationParser.TEXT_FULL);
        DUE.same("a character once more", parser.append(' '), NotationParser.TEXT_FULL);
        DUE.same("a full text's length", parser.textLength(), 80);
        DUE.same("an invalid character for a full text", parser.append(127), NotationParser.INVALID_ARGUMENT);
        DUE.same("an invalid character for a full text", parser.append(31), NotationParser.INVALID_ARGUMENT);
        parser.clearText();
        DUE.same("a text that was full takes characters again", parser.append('1'), 1);
    }

    /** "The formula text is a character buffer of at most 80 characters." */
    private static void formulaOfEightyCharacters() {
        NotationParser parser = Due.typed("1" + " ".repeat(77) + "+");
        DUE.same("79 characters end too early", parser.syntaxError(), 79);
        DUE.same("the 80th", parser.append('2'), 80);
        DUE.same("80 characters are a formula", parser.syntaxError(), FORMULA);
        DUE.same("the 81st", parser.append('3'), NotationParser.TEXT_FULL);
        DUE.same("accept of 80 characters", parser.accept(), 0);
        DUE.same("the value of 80 characters", parser.value(0), 3);
        fault(" ".repeat(79) + "!", 79);
        fault(" ".repeat(79) + "+", 79);
        fault(" ".repeat(79) + "(", 80);
        fault(" ".repeat(80), 80);
        formula(" ".repeat(79) + "7");
        formula("7" + " ".repeat(79));
        formula(" ".repeat(74) + "123456");
        fault(" ".repeat(73) + "1234567", 73);
        formula(" ".repeat(75) + "x<=12");
        fault(" ".repeat(77) + "x<=", 80);
        fault(" ".repeat(78) + "x.", 79);
        fault(" ".repeat(78) + "..", 78);
        fault(" ".repeat(77) + "abs", 80);
        formula(" ".repeat(78) + "ab");
        formula(" ".repeat(76) + "absx");
        formula("(".repeat(39) + "10" + ")".repeat(39));
        fault("(".repeat(40) + "1" + ")".repeat(39), 80);
        fault("(".repeat(39) + "1" + ")".repeat(40), 79);
        formula("x".repeat(80));
        formula("-" + "x-".repeat(39) + "x");
    }

    /** "Returns the length that the text had." */
    private static void lengthThatTheTextHad() {
        for (int length : new int[] {0, 1, 2, 79, 80}) {
            NotationParser parser = Due.typed("!".repeat(length));
            DUE.same("clearText() of " + length, parser.clearText(), length);
            DUE.same("clearText() once more", parser.clearText(), 0);
            DUE.same("textLength() of a cleared text", parser.textLength(), 0);
            DUE.same("syntaxError() of a cleared text", parser.syntaxError(), 0);
            DUE.same("accept() of a cleared text", parser.accept(), NotationParser.NO_FORMULA);
            DUE.same("append to a cleared text", parser.append('x'), 1);
            DUE.same("nothing is left of what was cleared", parser.accept(), 0);
        }
    }

    /** "Returns 0 to 80." */
    private static void lengthsFromNoneToEighty() {
        NotationParser parser = new NotationParser();
        for (int length = 0; length <= 80; length++) {
            DUE.same("textLength()", parser.textLength(), length);
            parser.append('(');
        }
        DUE.same("textLength() of a full text", parser.textLength(), 80);
        parser.append('(');
        DUE.same("textLength() after a refused character", parser.textLength(), 80);
    }

    /** "Creates a parser with an empty formula text, the accepted formula 0 and all variables 0." */
    private static void emptyTextAndFormulaZero() {
        NotationParser parser = new NotationParser();
        DUE.same("textLength()", parser.textLength(), 0);
        DUE.same("syntaxError() of the empty text", parser.syntaxError(), 0);
        DUE.same("accept() of the empty text", parser.accept(), NotationParser.NO_FORMULA);
        for (int reading = 0; reading < 4; reading++) {
            DUE.same("status of 0", parser.status(reading), NotationParser.SUCCESS);
            DUE.same("value of 0", parser.value(reading), 0);
            DUE.same("printed form of 0", Due.printed(parser, reading), "0");
            DUE.same("speech text of 0", Due.spoken(parser, reading), "0");
            DUE.same("nodes of 0", parser.nodeCount(reading), 1);
            DUE.same("height of 0", parser.height(reading), 1);
            DUE.same("no link of 0", parser.linkHolds(reading, 0), NotationParser.NOT_FOUND);
            DUE.same("0 is no solution", parser.nextSolution(reading, 0, -1000), NotationParser.NOT_FOUND);
        }
        DUE.same("trees of 0", parser.treeCount(), 1);
        DUE.same("outcomes of 0", parser.outcomeCount(), 1);
        for (int letter = 0; letter < 26; letter++) {
            DUE.same("occurrences in 0", parser.occurrences(letter), 0);
            Due.retype(parser, "" + (char) ('a' + letter));
            parser.accept();
            DUE.same("a new object's variable", parser.value(0), 0);
            DUE.same("a new object's variable", parser.setVariable(letter, 0), 0);
        }
        DUE.same("what a new object prints into its text", new NotationParser().appendPrinted(0), 1);
    }

    // ---- tokens

    /** "Blanks (code 32) separate tokens and are otherwise ignored." */
    private static void blanks() {
        formula("  12  +  x  ");
        formula("abs ' ' ' x");
        formula(" x : - 1 .. ( 2 ) <= 3");
        fault("1 2", 2);
        fault("12 345", 3);
        fault("1 +1 1", 5);
        fault("x< =y", 3);
        fault("x> =y", 3);
        fault("x! =y", 1);
        fault("x:1. .2", 3);
        DUE.same("variables in ab s", Due.accepted("ab s").occurrences(1), 1);
        DUE.same("variables in a bs", Due.accepted("a bs").occurrences(18), 1);
        DUE.same("variables in abs x", Due.accepted("abs x").occurrences(1), 0);
        DUE.same("nodes of x y", Due.accepted("x y").nodeCount(0), 3);
        DUE.same("nodes of x   y", Due.accepted("x   y").nodeCount(0), 3);
        fault("x_y", 1);
    }

    /** "a number: a maximal run of digits; it must have at most 6 digits". */
    private static void sixDigits() {
        for (int digits = 1; digits <= 80; digits++) {
            fault("7".repeat(digits), digits <= 6 ? FORMULA : 0);
            fault("0".repeat(digits), digits <= 6 ? FORMULA : 0);
        }
        for (int digits = 5; digits <= 8; digits++) {
            boolean fits = digits <= 6;
            fault("x+" + "1".repeat(digits), fits ? FORMULA : 2);
            fault("x^" + "1".repeat(digits) + "y", fits ? FORMULA : 2);
            fault("abs" + "1".repeat(digits) + "+", fits ? 4 + digits : 3);
            fault("1<" + "1".repeat(digits) + ")", fits ? 2 + digits : 2);
            fault("x" + "1".repeat(digits), 1);
        }
        fault("123456 1234567", 7);
        fault("123456+1234567", 7);
        fault("1234567+1234567", 0);
        DUE.same("value of 999999", Due.accepted("999999").value(0), 999999);
        DUE.same("value of 100000", Due.accepted("100000").value(0), 100000);
        DUE.same("value of 000000", Due.accepted("000000").value(0), 0);
        DUE.same("value of 000009", Due.accepted("000009").value(0), 9);
        DUE.same("value of 123456", Due.accepted("123456").value(0), 123456);
    }

    /** "a function name: abs, sgn, sqr or dbl": of all words of three letters these alone. */
    private static void functionNames() {
        NotationParser parser = new NotationParser();
        for (int word = 0; word < 26 * 26 * 26; word++) {
            parser = word % 80 == 0 ? new NotationParser() : parser;
            String text = "" + (char) ('a' + word / 676) + (char) ('a' + word / 26 % 26) + (char) ('a' + word % 26);
            boolean name = text.equals("abs") || text.equals("sgn") || text.equals("sqr") || text.equals("dbl");
            Due.retype(parser, text);
            DUE.same("syntaxError of " + text, parser.syntaxError(), name ? 3 : FORMULA);
        }
    }

    /** "a variable: a single letter a to z". */
    private static void variableLetters() {
        for (char letter = 'a'; letter <= 'z'; letter++) {
            NotationParser parser = Due.accepted(letter + "+1");
            DUE.same("setVariable of " + letter, parser.setVariable(letter - 'a', 41), 1);
            DUE.same("value of " + letter + "+1", parser.value(0), 42);
            DUE.same("letters of " + letter + letter, Due.accepted("" + letter + letter).nodeCount(0), 3);
        }
        for (char letter = 'A'; letter <= 'Z'; letter++) {
            fault("" + letter, 0);
            fault("x+" + letter, 2);
        }
        fault("`", 0);
        fault("{", 0);
    }

    /** The list of tokens: what a character alone is. */
    private static void everyCharacterAlone() {
        for (char character = 32; character <= 126; character++) {
            boolean letter = character >= 'a' && character <= 'z';
            boolean digit = character >= '0' && character <= '9';
            boolean blank = character == ' ';
            boolean open = character == '(';
            boolean operator = "+-*/^".indexOf(character) >= 0;
            boolean relation = "=<>:".indexOf(character) >= 0;
            fault("" + character, letter || digit ? FORMULA : blank || open || character == '-' ? 1 : 0);
            fault("x" + character, letter || blank ? FORMULA : open || operator || relation ? 2 : 1);
            fault("(x" + character, character == ')' ? FORMULA : letter || blank || open || operator ? 3 : 2);
            fault("abs" + character, letter || digit ? FORMULA : blank || open || character == '\'' ? 4 : 3);
        }
    }

    /** The list of tokens once more: every two characters, at the start and behind a variable. */
    private static void everyPairOfCharacters() {
        NotationParser parser = new NotationParser();
        int texts = 0;
        for (char first = 32; first <= 126; first++) {
            for (char second = 32; second <= 126; second++) {
                for (String text : new String[] {"" + first + second, "x" + first + second}) {
                    parser = texts++ % 80 == 0 ? new NotationParser() : parser;
                    Reference reference = new Reference();
                    for (char character : text.toCharArray()) {
                        reference.append(character);
                    }
                    Due.retype(parser, text);
                    DUE.same("syntaxError of \"" + text + "\"", parser.syntaxError(), reference.syntaxError());
                }
            }
        }
    }

    /** "A token is always the longest one that starts at the current position". */
    private static void longestTokens() {
        formula("x<=y");
        formula("x>=y");
        formula("x!=y");
        formula("x:1..2");
        fault("x=<y", 2);
        fault("x=>y", 2);
        fault("x<>y", 2);
        fault("x==y", 2);
        fault("x=!y", 2);
        fault("x<==y", 3);
        fault("x>==y", 3);
        fault("x!==y", 3);
        fault("x!!=y", 1);
        fault("x:1...2", 5);
        fault("x:1....2", 5);
        fault("x:1.2", 3);
        fault("x..=y", 1);
        DUE.same("links of x<=-1", Due.typed("x<=-1").accept(), 1);
        DUE.same("12 is one number", Due.accepted("12").nodeCount(0), 1);
        DUE.same("12x holds two operands", Due.accepted("12x").nodeCount(0), 3);
    }

    /**
     * "only in letters a function name is recognised where its three letters start, and any other letter is a
     * variable. For example, xabsy consists of the variable x, the function abs and the variable y."
     */
    private static void functionNamesInLetters() {
        prints("xabsy", "(x*abs(y))");
        prints("xsgny", "(x*sgn(y))");
        prints("xsqry", "(x*sqr(y))");
        prints("xdbly", "(x*dbl(y))");
        prints("aabsx", "(a*abs(x))");
        prints("abssx", "abs(s)", "*x");
        prints("absgnx", "abs(g)", "*n", "*x");
        prints("asgnx", "(a*sgn(x))");
        prints("absabsx", "abs(abs(x))");
        prints("sqrsqry", "sqr(sqr(y))");
        prints("dbldblz", "dbl(dbl(z))");
        prints("sqrt", "sqr(t)");
        prints("dblx", "dbl(x)");
        prints("absqr", "abs(q)", "*r");
        prints("xyab", "((x*y)*a)", "*b");
        prints("sgsgnx", "(s*g)", "*sgn(x)");
        endsTooEarly("abs");
        endsTooEarly("xabs");
        endsTooEarly("absabs");
        formula("ab");
        formula("absab");
    }

    /** Under reading 0: the first part with all that is multiplied to it, one bracket around each. */
    private static void prints(String text, String first, String... others) {
        StringBuilder due = new StringBuilder(first);
        for (String other : others) {
            due.insert(0, '(').append(other).append(')');
        }
        DUE.same("printed form of " + text, Due.printedOf(text, 0), due.toString());
    }

    // ---- grammar

    /** "sum = [ "-" ] term { ( "+" | "-" ) term }": one minus, and only at the start of a sum. */
    private static void leadingMinus() {
        formula("-x");
        fault("--x", 1);
        fault("+x", 0);
        fault("x--y", 2);
        fault("x+-y", 2);
        fault("x*-y", 2);
        fault("x/-y", 2);
        fault("x^-y", 2);
        fault("abs-x", 3);
        fault("abs'-x", 4);
        fault("(--x)", 2);
        formula("(-x)-(-x)");
        formula("x^(-y)");
        formula("abs(-x)");
        formula("x=-y");
        fault("x=--y", 3);
        formula("x:-1..-2");
        fault("x:--1..2", 3);
        fault("x:1..--2", 6);
    }

    /**
     * "A power that follows another power of the same product cannot start with a number; the first power of a
     * product and the power behind ^ can."
     */
    private static void powersThatStartWithNumbers() {
        fault("x2", 1);
        fault("x 2", 2);
        fault("2 3", 2);
        fault("(2)3", 3);
        fault("x^2 3", 4);
        fault("x^y 3", 4);
        fault("2x 3", 3);
        fault("abs x 3", 6);
        fault("abs 2 3", 6);
        fault("abs(x)3", 6);
        fault("x abs y 3", 8);
        fault("x^abs y 3", 8);
        fault("abs x^y 3", 8);
        fault("(x 2)", 3);
        fault("x=y 2", 4);
        formula("2x");
        formula("2(3)");
        formula("2abs 3");
        formula("x*2");
        formula("x/2y");
        formula("x+2y");
        formula("x-2");
        formula("-2x");
        formula("(2x)");
        formula("x(2)");
        formula("x^2");
        formula("x^2^3");
        formula("2^2y^2^2");
        formula("xy^2");
        formula("abs 2x");
        formula("x abs 2");
        formula("x abs 2abs 2");
        formula("abs'2");
        formula("x^abs 2");
        formula("x<2:2..2");
    }

    /** "A function has at most 3 primes"; "a fourth prime". */
    private static void threePrimes() {
        for (String function : new String[] {"abs", "sgn", "sqr", "dbl"}) {
            for (int primes = 0; primes <= 6; primes++) {
                fault(function + "'".repeat(primes) + "x", primes <= 3 ? FORMULA : 6);
                fault(function + " '".repeat(primes) + " x", primes <= 3 ? FORMULA : 10);
                endsTooEarly(function + "'".repeat(Math.min(primes, 3)));
            }
        }
        fault("abs''''", 6);
        formula("abs'''sgn'''sqr'''dbl'''x");
        fault("abs'''sgn''''x", 12);
        formula("abs'''x+abs'''x");
        fault("abs'x'", 5);
        fault("abs(x)'", 6);
        fault("'x", 0);
        fault("x'", 1);
        fault("2'", 1);
        fault("x+'y", 2);
        fault("x'y", 1);
    }

    /** "a formula has at most 4 links"; "the relation of a fifth link". */
    private static void fourLinks() {
        String[] relations = {"=", "<", ">", "<=", ">=", "!="};
        for (String relation : relations) {
            for (int links = 0; links <= 6; links++) {
                String text = "x" + (relation + "x").repeat(links);
                int fifth = 1 + 4 * (relation.length() + 1);
                fault(text, links <= 4 ? FORMULA : fifth);
                DUE.same("accept of " + text, Due.typed(text).accept(), links <= 4 ? links : -2);
            }
            fault("x=x:0..1:0..1=x" + relation, 15);
            fault("x=x=x=x=x  " + relation + "x", 11);
        }
        for (int links = 0; links <= 6; links++) {
            String text = "x" + ":1..2".repeat(links);
            fault(text, links <= 4 ? FORMULA : 21);
            DUE.same("accept of " + text, Due.typed(text).accept(), links <= 4 ? links : -2);
        }
        fault("x=x=x=x=x:1..2", 9);
        formula("x=x=x=x:1..2");
        fault("x=x=x=x:1..2=x", 12);
        fault("x=x=x=x=x)", 9);
        fault("x=x=x=x=", 8);
    }

    /** "":" sum ".." sum": both sums, and the dots between them alone. */
    private static void linkBetween() {
        formula("x:1..2");
        endsTooEarly("x:");
        endsTooEarly("x:1");
        endsTooEarly("x:1..");
        endsTooEarly("x:1.. ");
        endsTooEarly("x:(1");
        fault("x:..2", 2);
        fault("x:1=2", 3);
        fault("x:1:2", 3);
        fault("x:1..2..3", 6);
        fault("x..2", 1);
        fault("x=1..2", 3);
        fault("x:1)..2", 3);
        fault("x:(1..2)", 4);
        fault("(x:1..2)", 2);
        fault("(x=1)", 2);
        fault("x:1..2)", 6);
        formula("x:1..2:3..4");
        formula("x:(1)..(2)");
    }

    // ---- syntaxError and accept

    /** "the 0-based index of the first character of the first token that cannot follow the tokens before it". */
    private static void firstFaultOfAll() {
        fault(")", 0);
        fault("x)", 1);
        fault("x)!)", 1);
        fault("!)", 0);
        fault("x<=<=y", 3);
        fault("x   <=   <=   y", 9);
        fault("x  1234567", 3);
        fault("x+*y", 2);
        fault("x+  *y", 4);
        fault("()", 1);
        fault("(  )", 3);
        fault("x..y", 1);
        fault("x !=!= y", 4);
        fault("(x", 2);
        fault("(x))", 3);
        fault("abs abs)", 7);
        fault("~x", 0);
        fault("x~", 1);
        fault("x+~", 2);
        fault("x+1234567~", 2);
    }

    /** "the length of the text (with all blanks) if the text ends too early". */
    private static void textsThatEndTooEarly() {
        String[] texts = {"", "x+", "x-", "x*", "x/", "x^", "x=", "x<=", "x:", "x:1", "x:1..", "(", "((x)", "(x", "-",
            "abs", "abs'''", "2(", "x=y=", "x=y:2", "x^abs"};
        for (String text : texts) {
            for (int blanks = 0; text.length() + blanks <= 80; blanks += 1 + blanks / 4) {
                endsTooEarly(text + " ".repeat(blanks));
                endsTooEarly(" ".repeat(blanks) + text);
            }
        }
        endsTooEarly(" ".repeat(80));
        endsTooEarly("(".repeat(80));
        endsTooEarly("x+".repeat(40));
    }

    /** "Returns the number of links of the formula; NO_FORMULA if the text is not a formula." */
    private static void numberOfLinks() {
        String[] texts = {"x", "x<y", "x<y:1..2", "x:1..2:3..4!=5", "x=x<=x>=x!=x"};
        for (int links = 0; links < texts.length; links++) {
            NotationParser parser = Due.typed(texts[links]);
            DUE.same("accept of " + texts[links], parser.accept(), links);
            DUE.same("accept once more", parser.accept(), links);
            DUE.same("the text is kept", parser.textLength(), texts[links].length());
            DUE.same("the text is kept", parser.syntaxError(), FORMULA);
        }
        for (String text : new String[] {"", " ", "x+", "x)", "1234567", "x=x=x=x=x=x", "abs''''x", "x 2"}) {
            NotationParser parser = Due.typed(text);
            DUE.same("accept of " + text, parser.accept(), NotationParser.NO_FORMULA);
            DUE.same("the text is kept", parser.textLength(), text.length());
        }
    }

    /** "all queries below are about the accepted formula, until another text is accepted." */
    private static void acceptedUntilAnother() {
        NotationParser parser = Due.accepted("xx=4:1..y");
        parser.clearText();
        checkAccepted(parser, "after clearText()");
        Due.type(parser, "1+");
        checkAccepted(parser, "after append");
        parser.syntaxError();
        checkAccepted(parser, "after syntaxError()");
        parser.accept();
        checkAccepted(parser, "after a refused accept()");
        parser.append('1');
        parser.syntaxError();
        checkAccepted(parser, "after syntaxError() of a formula");
        parser.appendPrinted(0);
        checkAccepted(parser, "after appendPrinted(0)");
        Due.retype(parser, "z");
        DUE.same("accept of another text", parser.accept(), 0);
        DUE.same("printed form of another", Due.printed(parser, 0), "z");
        DUE.same("links of another", parser.linkHolds(0, 0), NotationParser.NOT_FOUND);
        DUE.same("nodes of another", parser.nodeCount(0), 1);
        DUE.same("x in another", parser.occurrences('x' - 'a'), 0);
        DUE.same("z in another", parser.occurrences('z' - 'a'), 1);
    }

    private static void checkAccepted(NotationParser parser, String when) {
        DUE.same("printed form " + when, Due.printed(parser, 1), "(x*x)=4:1..y");
        DUE.same("nodes " + when, parser.nodeCount(2), 6);
        DUE.same("height " + when, parser.height(3), 2);
        DUE.same("x " + when, parser.occurrences('x' - 'a'), 2);
        DUE.same("link 1 " + when, parser.linkHolds(0, 1), 0);
        DUE.same("link 2 " + when, parser.linkHolds(0, 2), NotationParser.NOT_FOUND);
    }
}
