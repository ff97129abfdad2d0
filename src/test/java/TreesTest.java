/** Promises 13 to 15: nodeCount, height, treeCount. */
public final class TreesTest {
    private static final Due DUE = new Due();

    public static void main(String[] args) {
        nodes();
        heights();
        trees();
        wrongReadings();
        DUE.end();
    }

    private static void nodes() {
        Object[][] rows = {{"7", 1}, {"x", 1}, {"((x))", 1}, {"-x", 2}, {"xy", 3}, {"x*y", 3}, {"abs x", 2},
            {"abs'''x", 2}, {"sqr 2x", 4}, {"x^sqr 2y", 6}, {"x=y", 2}, {"x:y..z", 3}, {"-x^2<=3:1..9!=x", 8},
            {"1/2x-0", 7}, {"abcdef", 11}};
        for (Object[] row : rows) {
            NotationParser parser = Due.accepted((String) row[0]);
            for (int reading = 0; reading < 4; reading++) {
                DUE.same("nodeCount(" + reading + ") of " + row[0], parser.nodeCount(reading), (Integer) row[1]);
            }
        }
    }

    private static void heights() {
        checkHeights("7", 1, 1, 1, 1);
        checkHeights("((x))", 1, 1, 1, 1);
        checkHeights("-x", 2, 2, 2, 2);
        checkHeights("abs''x", 2, 2, 2, 2);
        checkHeights("1+2+3+4", 4, 4, 4, 4);
        checkHeights("x^y^z", 3, 3, 3, 3);
        checkHeights("1/2x", 3, 3, 3, 3);
        checkHeights("1/2xyz", 5, 5, 5, 5);
        checkHeights("ab*cd", 4, 3, 4, 3);
        checkHeights("sqr 2x", 3, 3, 3, 3);
        checkHeights("-sqr sqr 2x", 5, 5, 5, 5);
        checkHeights("x^sqr 2y", 4, 4, 4, 4);
        checkHeights("sqr 2(x+y+z)", 4, 4, 5, 5);
        checkHeights("x=1+2*3=y", 3, 3, 3, 3);
        checkHeights("ab*cd:1..-x", 4, 3, 4, 3);
        checkHeights("1:1..(1+x)^2", 3, 3, 3, 3);
    }

    private static void checkHeights(String text, int... due) {
        NotationParser parser = Due.accepted(text);
        for (int reading = 0; reading < 4; reading++) {
            DUE.same("height(" + reading + ") of " + text, parser.height(reading), due[reading]);
        }
    }

    private static void trees() {
        Object[][] rows = {{"x", 1}, {"xy", 1}, {"1/2x", 2}, {"1*2x", 2}, {"2x/3", 1}, {"2x/3y", 2}, {"sqr 2", 1},
            {"sqr 2x", 2}, {"sqr 2*x", 1}, {"1/sqr 2x", 3}, {"1/2sqr 2x", 4}, {"1/2x=sqr 2y", 4},
            {"1/2x+sqr 2y", 4}, {"1/sqr(2x)", 1}, {"x^sqr 2y", 2}, {"1/x^2y", 2}, {"x y*z", 1}};
        for (Object[] row : rows) {
            DUE.same("treeCount of " + row[0], Due.accepted((String) row[0]).treeCount(), (Integer) row[1]);
        }
    }

    private static void wrongReadings() {
        NotationParser parser = Due.accepted("1/2x");
        for (int reading : new int[] {-1, 4, Integer.MIN_VALUE, Integer.MAX_VALUE}) {
            DUE.same("nodeCount", parser.nodeCount(reading), NotationParser.INVALID_ARGUMENT);
            DUE.same("height", parser.height(reading), NotationParser.INVALID_ARGUMENT);
        }
    }
}
