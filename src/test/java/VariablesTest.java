/** Promises 6 and 7: setVariable and occurrences. */
public final class VariablesTest {
    private static final Due DUE = new Due();

    public static void main(String[] args) {
        setting();
        refusing();
        counting();
        DUE.end();
    }

    private static void setting() {
        NotationParser parser = new NotationParser();
        for (int letter = 0; letter < 26; letter++) {
            int value = letter % 2 == 0 ? 1000 - letter : letter - 1000;
            DUE.same("setVariable first", parser.setVariable(letter, value), 1);
            DUE.same("setVariable again", parser.setVariable(letter, value), 0);
        }
        for (int letter = 0; letter < 26; letter++) {
            Due.retype(parser, "" + (char) ('a' + letter));
            parser.accept();
            DUE.same("value of variable " + letter, parser.value(0),
                letter % 2 == 0 ? 1000 - letter : letter - 1000);
        }
        DUE.same("setVariable back to 0", parser.setVariable(25, 0), 1);
        DUE.same("value of z", parser.value(3), 0);
        DUE.same("setVariable to -1000", parser.setVariable(25, -1000), 1);
        DUE.same("value of z", parser.value(2), -1000);
        DUE.same("setVariable to 1000", parser.setVariable(25, 1000), 1);
        DUE.same("value of z", parser.value(1), 1000);
    }

    private static void refusing() {
        NotationParser parser = Due.accepted("a+z");
        parser.setVariable(0, 3);
        int[][] wrong = {{-1, 0}, {26, 0}, {Integer.MIN_VALUE, 5}, {Integer.MAX_VALUE, 5}, {0, 1001}, {0, -1001},
            {25, Integer.MAX_VALUE}, {25, Integer.MIN_VALUE}, {-1, 1001}, {26, -1001}};
        for (int[] row : wrong) {
            DUE.same("setVariable(" + row[0] + ", " + row[1] + ")", parser.setVariable(row[0], row[1]),
                NotationParser.INVALID_ARGUMENT);
        }
        DUE.same("value after refusals", parser.value(0), 3);
    }

    private static void counting() {
        NotationParser parser = Due.accepted("xabsy+x=abs'(xz)^a:b..x");
        int[][] rows = {{'x', 4}, {'y', 1}, {'z', 1}, {'a', 1}, {'b', 1}, {'s', 0}, {'c', 0}};
        for (int[] row : rows) {
            DUE.same("occurrences of " + (char) row[0], parser.occurrences(row[0] - 'a'), row[1]);
        }
        Due.type(parser, "+y+y");
        DUE.same("occurrences in what was accepted", parser.occurrences('y' - 'a'), 1);
        parser.accept();
        DUE.same("occurrences after accept", parser.occurrences('y' - 'a'), 3);
        for (int letter : new int[] {-1, 26, Integer.MIN_VALUE, Integer.MAX_VALUE}) {
            DUE.same("occurrences(" + letter + ")", parser.occurrences(letter),
                NotationParser.INVALID_ARGUMENT);
        }
        DUE.same("occurrences in 80 variables", Due.accepted("q".repeat(80)).occurrences(16), 80);
    }
}
