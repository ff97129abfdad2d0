import java.util.Random;

/** Random runs of calls, each answer compared with the reference's; the same runs every time. */
public final class ReferenceTest {
    private static final int RUNS = 6000;
    // An object is good for 512 calls, and what stands behind a test of this bound makes up to three.
    private static final int MAX_CALLS = 509;
    private static final String TOKENS = "0 1 2 7 12 999999 1234567 a b x x x y abs sgn sqr dbl ' ' + - * / ^ ( ( ) ) "
        + "= < > <= >= != : .. . ! A";
    private static final Due DUE = new Due();

    private final Random random;
    private final NotationParser parser = new NotationParser();
    private final Reference reference = new Reference();
    private final StringBuilder history = new StringBuilder();
    private int calls;

    private ReferenceTest(int seed) {
        random = new Random(seed);
    }

    public static void main(String[] args) {
        for (int run = 0; run < RUNS && DUE.allRight(); run++) {
            new ReferenceTest(run).run();
        }
        DUE.end();
    }

    private void run() {
        while (calls < MAX_CALLS - 100 && DUE.allRight()) {
            String text = text();
            if (chance(90)) {
                check("clearText()", parser.clearText(), reference.clearText());
            }
            for (int i = 0; i < text.length() && calls < MAX_CALLS; i++) {
                int character = text.charAt(i);
                check("append(" + character + ")", parser.append(character), reference.append(character));
            }
            check("syntaxError()", parser.syntaxError(), reference.syntaxError());
            check("accept()", parser.accept(), reference.accept());
            checkTexts();
            for (int i = 0; i < 40 && calls < MAX_CALLS; i++) {
                query();
            }
        }
    }

    /** On objects of their own: reading whole texts would take more calls than one object has. */
    private void checkTexts() {
        if (reference.syntaxError() != NotationParser.NOT_FOUND) {
            return;
        }
        String text = reference.text();
        for (int reading = 0; reading < 4; reading++) {
            String of = "(" + reading + ") of " + text;
            DUE.same("printed" + of, Due.printedOf(text, reading), reference.printed(reading));
            DUE.same("spoken" + of, Due.spokenOf(text, reading), reference.spoken(reading));
        }
    }

    private void check(String call, long got, long due) {
        calls++;
        DUE.same(history + call, got, due);
        history.append(call).append("; ");
    }

    private void query() {
        int reading = chance(95) ? random.nextInt(4) : oddNumber();
        int letter = chance(70) ? 23 + random.nextInt(2) : chance(90) ? random.nextInt(26) : oddNumber();
        int value = chance(60) ? random.nextInt(9) - 4 : chance(90) ? random.nextInt(2003) - 1001 : oddNumber();
        int index = chance(90) ? random.nextInt(60) : oddNumber();
        int link = chance(90) ? random.nextInt(5) : oddNumber();
        String of = "(" + reading;
        switch (random.nextInt(19)) {
            case 0, 1, 2 -> check("setVariable(" + letter + ", " + value + ")",
                parser.setVariable(letter, value), reference.setVariable(letter, value));
            case 3 -> check("occurrences(" + letter + ")", parser.occurrences(letter), reference.occurrences(letter));
            case 4 -> check("status" + of + ")", parser.status(reading), reference.status(reading));
            case 5, 6 -> check("value" + of + ")", parser.value(reading), reference.value(reading));
            case 7 -> check("linkHolds" + of + ", " + link + ")",
                parser.linkHolds(reading, link), reference.linkHolds(reading, link));
            case 8 -> check("outcomeCount()", parser.outcomeCount(), reference.outcomeCount());
            case 9 -> {
                if (chance(10)) {
                    check("nextSolution" + of + ", " + letter + ", " + value + ")",
                        parser.nextSolution(reading, letter, value), reference.nextSolution(reading, letter, value));
                }
            }
            case 10 -> check("nodeCount" + of + ")", parser.nodeCount(reading), reference.nodeCount(reading));
            case 11 -> check("height" + of + ")", parser.height(reading), reference.height(reading));
            case 12 -> check("treeCount()", parser.treeCount(), reference.treeCount());
            case 13 -> check("printedLength" + of + ")",
                parser.printedLength(reading), reference.printedLength(reading));
            case 14 -> check("printedCharacter" + of + ", " + index + ")",
                parser.printedCharacter(reading, index), reference.printedCharacter(reading, index));
            case 15 -> check("speechLength" + of + ")", parser.speechLength(reading), reference.speechLength(reading));
            case 16 -> check("speechCharacter" + of + ", " + index + ")",
                parser.speechCharacter(reading, index), reference.speechCharacter(reading, index));
            case 17 -> check("textLength()", parser.textLength(), reference.textLength());
            default -> checkAppendPrinted(reading);
        }
    }

    private void checkAppendPrinted(int reading) {
        if (chance(30)) {
            check("appendPrinted(" + reading + ")", parser.appendPrinted(reading), reference.appendPrinted(reading));
            check("accept()", parser.accept(), reference.accept());
        }
    }

    private int oddNumber() {
        int[] numbers = {-1, -2, 4, 5, 26, 80, 1000, 1001, -1000, -1001, Integer.MAX_VALUE, Integer.MIN_VALUE};
        return numbers[random.nextInt(numbers.length)];
    }

    private boolean chance(int percent) {
        return random.nextInt(100) < percent;
    }

    // ---- texts

    private String text() {
        String text = chance(15) ? soup() : formula();
        if (chance(15) && !text.isEmpty()) {
            int at = random.nextInt(text.length());
            String token = token();
            text = text.substring(0, at) + token + text.substring(Math.min(text.length(), at + random.nextInt(3)));
        }
        if (chance(3)) {
            text += (char) random.nextInt(200);
        }
        return text;
    }

    private String soup() {
        StringBuilder text = new StringBuilder();
        int tokens = random.nextInt(chance(20) ? 60 : 9);
        for (int i = 0; i < tokens; i++) {
            text.append(token()).append(blank());
        }
        return text.toString();
    }

    private String token() {
        String[] tokens = TOKENS.split(" ");
        return tokens[random.nextInt(tokens.length)];
    }

    private String blank() {
        return chance(15) ? " " : "";
    }

    private String formula() {
        int depth = 1 + random.nextInt(4);
        StringBuilder text = new StringBuilder(sum(depth));
        int links = chance(60) ? 0 : random.nextInt(6);
        String[] relations = {"=", "<", ">", "<=", ">=", "!="};
        for (int i = 0; i < links; i++) {
            if (chance(30)) {
                text.append(":").append(blank()).append(sum(depth - 1)).append("..").append(sum(depth - 1));
            } else {
                text.append(relations[random.nextInt(6)]).append(blank()).append(sum(depth - 1));
            }
        }
        return text.toString();
    }

    private String sum(int depth) {
        StringBuilder text = new StringBuilder(chance(25) ? "-" : "").append(blank()).append(term(depth));
        while (chance(25)) {
            text.append(chance(50) ? "+" : "-").append(blank()).append(term(depth));
        }
        return text.toString();
    }

    private String term(int depth) {
        StringBuilder text = new StringBuilder(product(depth));
        while (chance(30)) {
            text.append(chance(50) ? "*" : "/").append(blank()).append(product(depth));
        }
        return text.toString();
    }

    private String product(int depth) {
        StringBuilder text = new StringBuilder(power(depth, true));
        while (chance(40)) {
            text.append(blank()).append(power(depth, false));
        }
        return text.toString();
    }

    private String power(int depth, boolean numberAllowed) {
        String text = primary(depth, numberAllowed) + blank();
        return chance(20) ? text + "^" + blank() + power(depth - 1, true) : text;
    }

    private String primary(int depth, boolean numberAllowed) {
        if (depth > 0 && chance(35)) {
            String[] functions = {"abs", "sgn", "sqr", "dbl"};
            String name = functions[random.nextInt(4)] + "'".repeat(chance(70) ? 0 : random.nextInt(5));
            return name + blank() + product(depth - 1);
        }
        if (depth > 0 && chance(30)) {
            return "(" + blank() + sum(depth - 1) + ")";
        }
        if (numberAllowed && chance(60)) {
            return chance(90) ? "" + random.nextInt(13) : "00" + random.nextInt(20000);
        }
        return chance(70) ? chance(60) ? "x" : "y" : "" + (char) ('a' + random.nextInt(26));
    }
}
