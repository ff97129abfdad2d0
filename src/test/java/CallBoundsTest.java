/**
 * The boundary cases that the document names for the arguments and the answers of the calls about variables,
 * evaluation and trees, sentence by sentence: promises 6 to 15, 'The public face' and 'What it is'.
 */
public final class CallBoundsTest {
    private static final int INVALID_ARGUMENT = NotationParser.INVALID_ARGUMENT;
    private static final int NOT_FOUND = NotationParser.NOT_FOUND;
    private static final int A = 0;
    private static final int X = 'x' - 'a';
    private static final int Z = 25;
    private static final int[] NO_READINGS = {-1, 4, 5, -2, 256, -256, Integer.MIN_VALUE, Integer.MAX_VALUE};
    private static final int[] NO_LETTERS = {-1, 26, 27, -26, 97, 256, Integer.MIN_VALUE, Integer.MAX_VALUE};
    private static final int[] NO_VALUES = {-1001, 1001, -2000, 2000, 65536, Integer.MIN_VALUE, Integer.MAX_VALUE};
    private static final Due DUE = new Due();

    public static void main(String[] args) {
        constants();
        variableLetters();
        variableValues();
        whetherTheValueHasChanged();
        occurrenceLetters();
        occurrencesFromNoneToEighty();
        statusReadings();
        everyStatus();
        valueReadings();
        valueOfAFailure();
        linkIndexes();
        linkOfEachNumber();
        linksOfAFailure();
        outcomesFromOneToFour();
        failuresWithTheSameStatus();
        solutionArguments();
        solutionsAtTheEnds();
        leastSolution();
        valuesOtherThanZero();
        noSolution();
        variableKeepsItsValue();
        nodeReadings();
        nodesOfEachKind();
        nodesOfTheLongestTexts();
        heightReadings();
        heightOfTheHighest();
        treesFromOneToFour();
        fiveHundredAndTwelveCalls();
        twoObjects();
        DUE.end();
    }

    private static NotationParser with(String text, int x) {
        NotationParser parser = Due.accepted(text);
        parser.setVariable(X, x);
        return parser;
    }

    /** "The constants". */
    private static void constants() {
        DUE.same("INVALID_ARGUMENT", NotationParser.INVALID_ARGUMENT, -1);
        DUE.same("NO_FORMULA", NotationParser.NO_FORMULA, -2);
        DUE.same("NOT_FOUND", NotationParser.NOT_FOUND, -3);
        DUE.same("TEXT_FULL", NotationParser.TEXT_FULL, -4);
        DUE.same("SUCCESS", NotationParser.SUCCESS, 0);
        DUE.same("OVERFLOW", NotationParser.OVERFLOW, 1);
        DUE.same("DIVISION_BY_ZERO", NotationParser.DIVISION_BY_ZERO, 2);
        DUE.same("DOMAIN_ERROR", NotationParser.DOMAIN_ERROR, 3);
    }

    // ---- setVariable and occurrences

    /** "letter: 0 for a to 25 for z"; "INVALID_ARGUMENT if an argument is out of range". */
    private static void variableLetters() {
        for (int letter = 0; letter <= 25; letter++) {
            NotationParser parser = Due.accepted("" + (char) ('a' + letter));
            DUE.same("setVariable(" + letter + ", 9)", parser.setVariable(letter, 9), 1);
            DUE.same("its value", parser.value(0), 9);
            for (int other = 0; other <= 25; other++) {
                DUE.same("another letter", parser.setVariable(other, 0), other == letter ? 1 : 0);
            }
        }
        for (int letter : NO_LETTERS) {
            for (int value : new int[] {0, 1, -1000, 1000, 1001}) {
                DUE.same("setVariable(" + letter + ", " + value + ")",
                    new NotationParser().setVariable(letter, value), INVALID_ARGUMENT);
            }
        }
    }

    /** "value: -1000 to 1000"; "INVALID_ARGUMENT if an argument is out of range". */
    private static void variableValues() {
        for (int letter : new int[] {A, X, Z}) {
            NotationParser parser = Due.accepted("" + (char) ('a' + letter));
            for (int value : new int[] {-1000, -999, -1, 1, 999, 1000}) {
                DUE.same("setVariable to " + value, parser.setVariable(letter, value), 1);
                DUE.same("the value", parser.value(1), value);
            }
            for (int value : NO_VALUES) {
                DUE.same("setVariable to " + value, parser.setVariable(letter, value), INVALID_ARGUMENT);
                DUE.same("the value", parser.value(1), 1000);
            }
        }
    }

    /** "Returns 1 if the value has changed, 0 if not". */
    private static void whetherTheValueHasChanged() {
        NotationParser parser = new NotationParser();
        int[][] rows = {{0, 0}, {1, 1}, {1, 0}, {0, 1}, {0, 0}, {-1000, 1}, {-1000, 0}, {1000, 1}, {1000, 0}, {-1, 1},
            {1001, INVALID_ARGUMENT}, {-1, 0}, {-1001, INVALID_ARGUMENT}, {-1, 0}, {0, 1}, {256, 1}, {0, 1}};
        for (int[] row : rows) {
            DUE.same("setVariable(23, " + row[0] + ")", parser.setVariable(X, row[0]), row[1]);
        }
    }

    /** "letter: 0 for a to 25 for z"; "INVALID_ARGUMENT if letter is out of range". */
    private static void occurrenceLetters() {
        NotationParser parser = Due.accepted("abc+xyzz");
        DUE.same("occurrences(0)", parser.occurrences(0), 1);
        DUE.same("occurrences(1)", parser.occurrences(1), 1);
        DUE.same("occurrences(3)", parser.occurrences(3), 0);
        DUE.same("occurrences(24)", parser.occurrences(24), 1);
        DUE.same("occurrences(25)", parser.occurrences(25), 2);
        for (int letter : NO_LETTERS) {
            DUE.same("occurrences(" + letter + ")", parser.occurrences(letter), INVALID_ARGUMENT);
            DUE.same("occurrences(" + letter + ") in 0", new NotationParser().occurrences(letter), INVALID_ARGUMENT);
        }
    }

    /** "Returns the number of its occurrences". */
    private static void occurrencesFromNoneToEighty() {
        for (int times = 1; times <= 80; times++) {
            NotationParser parser = Due.accepted("x".repeat(times));
            DUE.same("occurrences of x", parser.occurrences(X), times);
            DUE.same("occurrences of a", parser.occurrences(A), 0);
        }
        NotationParser parser = Due.accepted("abs sgn sqr dbl'x=a:x..-x<23");
        DUE.same("letters of function names", parser.occurrences('s' - 'a'), 0);
        DUE.same("letters of function names", parser.occurrences('b' - 'a'), 0);
        DUE.same("a beside abs", parser.occurrences(A), 1);
        DUE.same("x in all sums", parser.occurrences(X), 3);
        Due.type(parser, "+xxx");
        DUE.same("x in the text alone", parser.occurrences(X), 3);
    }

    // ---- status and value

    /** "reading: 0 to 3"; "INVALID_ARGUMENT if reading is out of range". */
    private static void statusReadings() {
        NotationParser parser = Due.accepted("1/0");
        for (int reading = 0; reading <= 3; reading++) {
            DUE.same("status(" + reading + ")", parser.status(reading), NotationParser.DIVISION_BY_ZERO);
        }
        for (int reading : NO_READINGS) {
            DUE.same("status(" + reading + ")", parser.status(reading), INVALID_ARGUMENT);
            DUE.same("status(" + reading + ") of 0", new NotationParser().status(reading), INVALID_ARGUMENT);
        }
    }

    /** "Returns SUCCESS, OVERFLOW, DIVISION_BY_ZERO or DOMAIN_ERROR", each reading its own. */
    private static void everyStatus() {
        NotationParser parser = with(EVERY_STATUS, 2);
        DUE.same("status(0)", parser.status(0), NotationParser.SUCCESS);
        DUE.same("status(1)", parser.status(1), NotationParser.DIVISION_BY_ZERO);
        DUE.same("status(2)", parser.status(2), NotationParser.DOMAIN_ERROR);
        DUE.same("status(3)", parser.status(3), NotationParser.OVERFLOW);
        DUE.same("status(0) again", parser.status(0), NotationParser.SUCCESS);
    }

    /**
     * With x = 2, 4/2x is 4 or 1 and sqr 1x is 2 or 4: 2^64 overflows under reading 3 alone, 1/(1-1) fails under
     * reading 1, and 2^(3-4) under reading 2.
     */
    private static final String EVERY_STATUS = "2^((sqr 1x)^3/(4/2x))+1/(4/2x-1)+2^(3-sqr 1x)";

    /** "Returns the value; 0 if ... reading is out of range." */
    private static void valueReadings() {
        NotationParser parser = Due.accepted("7");
        for (int reading = 0; reading <= 3; reading++) {
            DUE.same("value(" + reading + ")", parser.value(reading), 7);
        }
        for (int reading : NO_READINGS) {
            DUE.same("value(" + reading + ")", parser.value(reading), 0);
        }
    }

    /** "0 if the evaluation fails". */
    private static void valueOfAFailure() {
        for (String text : new String[] {"2^63", "1/0", "2^(-1)", "7+1/0", "1=1=1/0", "1:0..2^63"}) {
            NotationParser parser = Due.accepted(text);
            for (int reading = 0; reading <= 3; reading++) {
                DUE.same("value(" + reading + ") of " + text, parser.value(reading), 0);
            }
        }
        NotationParser parser = with("5/x", 1);
        DUE.same("value with x = 1", parser.value(0), 5);
        parser.setVariable(X, 0);
        DUE.same("value with x = 0", parser.value(0), 0);
        parser.setVariable(X, 5);
        DUE.same("value with x = 5", parser.value(0), 1);
        parser = with(EVERY_STATUS, 2);
        for (int reading = 3; reading >= 0; reading--) {
            DUE.same("value(" + reading + ") beside failures", parser.value(reading), reading == 0 ? 4 + 0 + 2 : 0);
        }
    }

    // ---- linkHolds

    /** "link: 0-based index of a link"; "INVALID_ARGUMENT if reading is out of range or link is negative". */
    private static void linkIndexes() {
        NotationParser parser = Due.accepted("1=1");
        int[] negative = {-1, -2, Integer.MIN_VALUE};
        for (int reading = 0; reading <= 3; reading++) {
            DUE.same("linkHolds(" + reading + ", 0)", parser.linkHolds(reading, 0), 1);
            for (int link : negative) {
                DUE.same("linkHolds(" + reading + ", " + link + ")", parser.linkHolds(reading, link), INVALID_ARGUMENT);
            }
        }
        for (int reading : NO_READINGS) {
            for (int link : new int[] {0, 1, 4, -1, Integer.MAX_VALUE, Integer.MIN_VALUE}) {
                DUE.same("linkHolds(" + reading + ", " + link + ")", parser.linkHolds(reading, link), INVALID_ARGUMENT);
            }
        }
        parser = Due.accepted("1/0");
        DUE.same("a negative link where there is none", parser.linkHolds(0, -1), INVALID_ARGUMENT);
        DUE.same("reading 4 where there is no link", parser.linkHolds(4, 0), INVALID_ARGUMENT);
    }

    /** "NOT_FOUND if there is no such link": formulas of no link to four. */
    private static void linkOfEachNumber() {
        String[] texts = {"1", "1<2", "1<2:2..3", "1:0..2:2..3=3", "1=1=1=1=1", "1:1..1:1..1:1..1:1..1"};
        int[] links = {0, 1, 2, 3, 4, 4};
        for (int i = 0; i < texts.length; i++) {
            NotationParser parser = Due.accepted(texts[i]);
            for (int link = 0; link <= 9; link++) {
                for (int reading = 0; reading <= 3; reading++) {
                    DUE.same("linkHolds(" + reading + ", " + link + ") of " + texts[i],
                        parser.linkHolds(reading, link), link < links[i] ? 1 : NOT_FOUND);
                }
            }
            DUE.same("a far link of " + texts[i], parser.linkHolds(0, Integer.MAX_VALUE), NOT_FOUND);
        }
        DUE.same("a link of a new object", new NotationParser().linkHolds(0, 0), NOT_FOUND);
        NotationParser parser = Due.accepted("1=2:1..1!=1<=1");
        int[] due = {0, 0, 0, 1, NOT_FOUND};
        for (int link = 0; link < due.length; link++) {
            DUE.same("linkHolds(0, " + link + ")", parser.linkHolds(0, link), due[link]);
        }
    }

    /** "The whole formula is evaluated first"; "0 if it does not hold or the evaluation of the formula fails". */
    private static void linksOfAFailure() {
        for (String text : new String[] {"1=1=1/0", "1/0=1=1", "1:0..2:0..2^63", "2:2^(-1)..2=2", "1=1:1/0..1"}) {
            NotationParser parser = Due.accepted(text);
            DUE.same("link 0 of " + text, parser.linkHolds(0, 0), 0);
            DUE.same("link 1 of " + text, parser.linkHolds(3, 1), 0);
            DUE.same("link 2 of " + text, parser.linkHolds(3, 2), NOT_FOUND);
            DUE.same("link -1 of " + text, parser.linkHolds(3, -1), INVALID_ARGUMENT);
        }
        NotationParser parser = with("1=1=1/x", 0);
        DUE.same("link 0 with x = 0", parser.linkHolds(0, 0), 0);
        parser.setVariable(X, 1);
        DUE.same("link 0 with x = 1", parser.linkHolds(0, 0), 1);
        DUE.same("no link of a failing formula", Due.accepted("2^63").linkHolds(2, 0), NOT_FOUND);
    }

    // ---- outcomeCount

    /** "Returns 1 to 4." */
    private static void outcomesFromOneToFour() {
        DUE.same("outcomes of a new object", new NotationParser().outcomeCount(), 1);
        DUE.same("outcomes of a number", with("7", 0).outcomeCount(), 1);
        DUE.same("outcomes of 8/2x", with("8/2x", 4).outcomeCount(), 2);
        DUE.same("outcomes of sqr 2x", with("sqr 2x", 4).outcomeCount(), 2);
        DUE.same("outcomes of 8/2sqr 2x", with("8/2sqr 2x", 3).outcomeCount(), 3);
        DUE.same("outcomes of 900/sqr 2x", with("900/sqr 2x", 3).outcomeCount(), 3);
        DUE.same("outcomes of 100/5sqr 2x", with("100/5sqr 2x", 3).outcomeCount(), 4);
        DUE.same("outcomes of four trees and two values", with("1/2x+sqr 2x", -1).outcomeCount(), 2);
        DUE.same("outcomes of four trees and values", with("8/2x+sqr 2x", 2).outcomeCount(), 4);
        DUE.same("outcomes of each status", with(EVERY_STATUS, 2).outcomeCount(), 4);
        DUE.same("two trees with one value", with("8/2x", 1).outcomeCount(), 1);
    }

    /** "An outcome is the status together with the value; all failures with the same status are the same outcome." */
    private static void failuresWithTheSameStatus() {
        DUE.same("one failure", with("1/0+8/2x+sqr 2x", 3).outcomeCount(), 1);
        DUE.same("one failure behind other values", with("8/2x+sqr 2x+1/0", 3).outcomeCount(), 1);
        DUE.same("one overflow, with what wraps around", with("8/2x+sqr 2x+2^63", 3).outcomeCount(), 1);
        DUE.same("one overflow of different powers", with("9^(sqr 9x)", 3).outcomeCount(), 1);
        DUE.same("a failure and the value 0", with("0/(4-8/2x)", 1).outcomeCount(), 1);
        DUE.same("a failure and the value 0", with("0/(8-8/2x)", 2).outcomeCount(), 2);
        DUE.same("a failure and the value of its status", with("2+0/(8-8/2x)", 2).outcomeCount(), 2);
        DUE.same("an overflow and the value 1", with("sgn(2^(62+sqr 1x/x-1))", 2).outcomeCount(), 2);
        DUE.same("two failures", with("1/(8-8/2x)+1/0^(2-8/2x)", 2).outcomeCount(), 2);
    }

    // ---- nextSolution

    /** "reading: 0 to 3", "letter: 0 for a to 25 for z", "from: -1000 to 1000"; "INVALID_ARGUMENT if ...". */
    private static void solutionArguments() {
        NotationParser parser = Due.accepted("1");
        for (int reading : new int[] {0, 3}) {
            for (int letter : new int[] {0, 25}) {
                for (int from : new int[] {-1000, -999, 0, 999, 1000}) {
                    DUE.same("nextSolution(" + reading + ", " + letter + ", " + from + ")",
                        parser.nextSolution(reading, letter, from), from + 1000);
                }
            }
        }
        for (String text : new String[] {"1", "0", "1/0"}) {
            parser = Due.accepted(text);
            for (int reading : NO_READINGS) {
                DUE.same("nextSolution(" + reading + ", 0, 0)", parser.nextSolution(reading, 0, 0), INVALID_ARGUMENT);
            }
            for (int letter : NO_LETTERS) {
                DUE.same("nextSolution(0, " + letter + ", 0)", parser.nextSolution(0, letter, 0), INVALID_ARGUMENT);
            }
            for (int from : NO_VALUES) {
                DUE.same("nextSolution(0, 0, " + from + ")", parser.nextSolution(0, 0, from), INVALID_ARGUMENT);
            }
            DUE.same("nextSolution(4, 26, 1001)", parser.nextSolution(4, 26, 1001), INVALID_ARGUMENT);
        }
    }

    /** "the least such value that is at least from and at most 1000, plus 1000". */
    private static void solutionsAtTheEnds() {
        DUE.same("x=-1000", Due.accepted("x=-1000").nextSolution(0, X, -1000), 0);
        DUE.same("x=-1000 from -999", Due.accepted("x=-1000").nextSolution(0, X, -999), NOT_FOUND);
        DUE.same("x=-999", Due.accepted("x=-999").nextSolution(0, X, -1000), 1);
        DUE.same("x=999", Due.accepted("x=999").nextSolution(0, X, -1000), 1999);
        DUE.same("x=1000", Due.accepted("x=1000").nextSolution(0, X, -1000), 2000);
        DUE.same("x=1000 from 999", Due.accepted("x=1000").nextSolution(0, X, 999), 2000);
        DUE.same("x=1000 from 1000", Due.accepted("x=1000").nextSolution(0, X, 1000), 2000);
        DUE.same("x=999 from 1000", Due.accepted("x=999").nextSolution(0, X, 1000), NOT_FOUND);
        DUE.same("x=1001", Due.accepted("x=1001").nextSolution(0, X, -1000), NOT_FOUND);
        DUE.same("x>1000", Due.accepted("x>1000").nextSolution(0, X, 1000), NOT_FOUND);
        DUE.same("x=-1001", Due.accepted("x=-1001").nextSolution(0, X, -1000), NOT_FOUND);
        DUE.same("x<-1000", Due.accepted("x<-1000").nextSolution(0, X, -1000), NOT_FOUND);
        DUE.same("a=7", Due.accepted("a=7").nextSolution(3, A, -1000), 1007);
        DUE.same("z=7", Due.accepted("z=7").nextSolution(3, Z, -1000), 1007);
    }

    /** "Finds the least value of a variable". */
    private static void leastSolution() {
        NotationParser parser = Due.accepted("xx=25");
        DUE.same("nextSolution from -1000", parser.nextSolution(0, X, -1000), 995);
        DUE.same("nextSolution from -6", parser.nextSolution(0, X, -6), 995);
        DUE.same("nextSolution from -5", parser.nextSolution(0, X, -5), 995);
        DUE.same("nextSolution from -4", parser.nextSolution(0, X, -4), 1005);
        DUE.same("nextSolution from 4", parser.nextSolution(0, X, 4), 1005);
        DUE.same("nextSolution from 5", parser.nextSolution(0, X, 5), 1005);
        DUE.same("nextSolution from 6", parser.nextSolution(0, X, 6), NOT_FOUND);
        parser = Due.accepted("sqr 2x=36");
        DUE.same("under reading 0", parser.nextSolution(0, X, -1000), 1009);
        DUE.same("under reading 1", parser.nextSolution(1, X, -1000), 1009);
        DUE.same("under reading 2", parser.nextSolution(2, X, -1000), 997);
        DUE.same("under reading 3", parser.nextSolution(3, X, -2), 1003);
        parser = Due.accepted("8/2x=1");
        DUE.same("under reading 0", parser.nextSolution(0, X, -1000), NOT_FOUND);
        DUE.same("under reading 1", parser.nextSolution(1, X, -1000), 1003);
    }

    /** "for which the formula succeeds with a value other than 0". */
    private static void valuesOtherThanZero() {
        NotationParser parser = Due.accepted("x");
        DUE.same("negative values are other than 0", parser.nextSolution(0, X, -1), 999);
        DUE.same("0 is not", parser.nextSolution(0, X, 0), 1001);
        parser = Due.accepted("x+3-3/(x+2)");
        DUE.same("values before", parser.nextSolution(0, X, -1000), 0);
        parser = Due.accepted("(x-5)/(x-5)");
        DUE.same("a failure is no solution", parser.nextSolution(0, X, 5), 1006);
        DUE.same("values before a failure", parser.nextSolution(0, X, 4), 1004);
        parser = Due.accepted("2^x");
        DUE.same("behind a DOMAIN_ERROR", parser.nextSolution(0, X, -1000), 1000);
        DUE.same("the last that fits", parser.nextSolution(0, X, 62), 1062);
        DUE.same("from the first that overflows", parser.nextSolution(0, X, 63), NOT_FOUND);
        parser = Due.accepted("2^(x+x)");
        DUE.same("overflows to the end", parser.nextSolution(0, X, 32), NOT_FOUND);
        parser = Due.accepted("2^(0-x)");
        DUE.same("behind overflows", parser.nextSolution(0, X, -1000), 938);
        parser = Due.accepted("dbl(2^62*x)");
        DUE.same("a value that fits as LEAST", parser.nextSolution(0, X, -1000), 999);
    }

    /** "NOT_FOUND if there is none." */
    private static void noSolution() {
        for (String text : new String[] {"0", "x-x", "1/0", "0x", "x!=x", "x^(-1)", "2^63+x", "1/(x-x)", "x=x=1/0"}) {
            NotationParser parser = Due.accepted(text);
            for (int reading = 0; reading <= 3; reading++) {
                DUE.same("nextSolution of " + text, parser.nextSolution(reading, X, -1000), NOT_FOUND);
                DUE.same("nextSolution of " + text, parser.nextSolution(reading, X, 1000), NOT_FOUND);
            }
        }
        NotationParser parser = with("x", 0);
        DUE.same("a variable that the formula lacks", parser.nextSolution(0, A, -1000), NOT_FOUND);
        parser.setVariable(X, 1);
        DUE.same("a variable that the formula lacks", parser.nextSolution(0, A, -1000), 0);
        DUE.same("a variable that the formula lacks", parser.nextSolution(0, A, 1000), 2000);
    }

    /** "the variable itself keeps its value". */
    private static void variableKeepsItsValue() {
        for (int value : new int[] {-1000, -1, 0, 1, 7, 1000}) {
            NotationParser parser = with("x=7", value);
            DUE.same("a solution", parser.nextSolution(0, X, -1000), 1007);
            DUE.same("x after a solution", parser.setVariable(X, value), 0);
            DUE.same("no solution", parser.nextSolution(1, X, 8), NOT_FOUND);
            DUE.same("x after no solution", parser.setVariable(X, value), 0);
            DUE.same("the formula after both", parser.value(0), value == 7 ? 1 : 0);
            parser.nextSolution(2, A, 3);
            DUE.same("a after a search", parser.setVariable(A, 0), 0);
            DUE.same("x after a search for a", parser.setVariable(X, value), 0);
            parser.nextSolution(4, X, 3);
            parser.nextSolution(0, X, 1001);
            DUE.same("x after refused searches", parser.setVariable(X, value), 0);
        }
    }

    // ---- nodeCount, height, treeCount

    /** "INVALID_ARGUMENT if reading is out of range." */
    private static void nodeReadings() {
        NotationParser parser = Due.accepted("1/2x");
        for (int reading = 0; reading <= 3; reading++) {
            DUE.same("nodeCount(" + reading + ")", parser.nodeCount(reading), 5);
        }
        for (int reading : NO_READINGS) {
            DUE.same("nodeCount(" + reading + ")", parser.nodeCount(reading), INVALID_ARGUMENT);
        }
    }

    /**
     * "numbers, variables, negations, binary operations and functions count 1 each, links, brackets and primes count
     * nothing."
     */
    private static void nodesOfEachKind() {
        Object[][] rows = {{"7", 1}, {"000000", 1}, {"x", 1}, {"-x", 2}, {"(x)", 1}, {"((((x))))", 1}, {"a+b", 3},
            {"a-b", 3}, {"a*b", 3}, {"ab", 3}, {"a/b", 3}, {"a^b", 3}, {"abs x", 2}, {"abs'x", 2}, {"abs'''x", 2},
            {"abs(x)", 2}, {"a=b", 2}, {"a=b=c=d=e", 5}, {"a:b..c", 3}, {"a:b..c:d..e:f..g:h..i", 9},
            {"-(-(-x))", 4}, {"abs sgn sqr dbl x", 5}};
        for (Object[] row : rows) {
            NotationParser parser = Due.accepted((String) row[0]);
            for (int reading = 0; reading <= 3; reading++) {
                DUE.same("nodeCount(" + reading + ") of " + row[0], parser.nodeCount(reading), (Integer) row[1]);
            }
        }
    }

    /** "Returns the number of nodes": texts of 80 characters, which hold the most. */
    private static void nodesOfTheLongestTexts() {
        Object[][] rows = {{"x".repeat(80), 159, 80}, {"x" + "^x".repeat(39), 79, 40}, {"x" + "+x".repeat(39), 79, 40},
            {"x" + "/x".repeat(39), 79, 40}, {"(-".repeat(26) + "x" + ")".repeat(26), 27, 27},
            {"abs".repeat(26) + "xy", 29, 28}, {"(".repeat(39) + "xy" + ")".repeat(39), 3, 2},
            {"x=".repeat(4) + "y".repeat(72), 147, 72},
            {"x:y..z" + ":y..z".repeat(3) + "x".repeat(59), 9 + 59 * 2, 60}};
        for (Object[] row : rows) {
            NotationParser parser = Due.accepted((String) row[0]);
            DUE.same("nodeCount(3) of " + row[0], parser.nodeCount(3), (Integer) row[1]);
            DUE.same("height(3) of " + row[0], parser.height(3), (Integer) row[2]);
        }
    }

    /** "INVALID_ARGUMENT if reading is out of range." */
    private static void heightReadings() {
        NotationParser parser = Due.accepted("1/2x");
        for (int reading = 0; reading <= 3; reading++) {
            DUE.same("height(" + reading + ")", parser.height(reading), 3);
        }
        for (int reading : NO_READINGS) {
            DUE.same("height(" + reading + ")", parser.height(reading), INVALID_ARGUMENT);
        }
    }

    /** "Returns the height of the highest tree of the sums of the formula; a number or a variable has height 1." */
    private static void heightOfTheHighest() {
        Object[][] rows = {{"7", 1}, {"x", 1}, {"((x))", 1}, {"x=y", 1}, {"x:1..2", 1}, {"-x", 2}, {"abs''x", 2},
            {"x+y", 2}, {"x+y=z", 2}, {"z=x+y", 2}, {"z:x+y..1", 2}, {"z:1..x+y", 2}, {"a=b=c=d=-e", 2},
            {"1+2+3=4", 3}, {"1+(2+3)=-4", 3}, {"-x=1+2+3", 3}, {"x:-x..-(-x)", 3}};
        for (Object[] row : rows) {
            NotationParser parser = Due.accepted((String) row[0]);
            for (int reading = 0; reading <= 3; reading++) {
                DUE.same("height(" + reading + ") of " + row[0], parser.height(reading), (Integer) row[1]);
            }
        }
        int[] due = {4, 3, 4, 3};
        for (int reading = 0; reading <= 3; reading++) {
            DUE.same("height(" + reading + ") of ab*cd", Due.accepted("ab*cd").height(reading), due[reading]);
        }
    }

    /** "Counts the different printed forms of the four readings"; "Returns 1 to 4." */
    private static void treesFromOneToFour() {
        Object[][] rows = {{"0", 1}, {"xy", 1}, {"1*2x", 2}, {"1/2x", 2}, {"sqr 2x", 2}, {"1/sqr 2x", 3},
            {"1/2sqr 2x", 4}, {"1/2x+sqr 2x", 4}, {"1/2x=sqr 2x", 4}, {"2x*y", 1}, {"sqr(2x)", 1}, {"1/(2x)", 1},
            {"sqr x", 1}, {"x sqr 2", 1}, {"x*sqr 2y", 3}, {"0/0x", 2}, {"1/(2^63)x", 2}};
        for (Object[] row : rows) {
            DUE.same("treeCount of " + row[0], Due.accepted((String) row[0]).treeCount(), (Integer) row[1]);
        }
        DUE.same("trees of a new object", new NotationParser().treeCount(), 1);
    }

    // ---- an object and others

    /** "An object is used for at most 512 calls after it has been made": the last of them answers as the first. */
    private static void fiveHundredAndTwelveCalls() {
        NotationParser parser = new NotationParser();
        for (int call = 1; call <= 509; call += 4) {
            DUE.same("call " + call, parser.append('x'), 1);
            DUE.same("call " + (call + 1), parser.accept(), 0);
            DUE.same("call " + (call + 2), parser.setVariable(X, call), 1);
            DUE.same("call " + (call + 3), parser.clearText(), 1);
        }
        NotationParser full = new NotationParser();
        for (int call = 1; call <= 80; call++) {
            DUE.same("call " + call, full.append('x'), call);
        }
        DUE.same("call 81", full.accept(), 0);
        for (int call = 82; call <= 510; call++) {
            DUE.same("call " + call, full.append('x'), NotationParser.TEXT_FULL);
        }
        DUE.same("call 511", full.nextSolution(1, X, -1), 999);
        DUE.same("call 512", full.speechLength(2), 80 + 79 * 4 + 78 * 11);
    }

    /** What one object is told, another does not hear. */
    private static void twoObjects() {
        NotationParser one = Due.accepted("x+1");
        NotationParser other = Due.accepted("y=2");
        one.setVariable(X, 41);
        DUE.same("the one", one.value(0), 42);
        DUE.same("the other", other.value(0), 0);
        DUE.same("x of the other", other.setVariable(X, 0), 0);
        DUE.same("the other's link", other.linkHolds(0, 0), 0);
        DUE.same("no link of the one", one.linkHolds(0, 0), NOT_FOUND);
        one.clearText();
        DUE.same("the other's text", other.textLength(), 3);
        DUE.same("the one's printed form", Due.printed(one, 0), "(x+1)");
        DUE.same("the other's printed form", Due.printed(other, 0), "y=2");
    }
}
