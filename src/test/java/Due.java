/** What the tests share: comparing answers with the ones that are due, and typing texts. */
final class Due {
    private static final int MOST_ROWS = 40;

    private int wrong;

    void same(String call, long got, long due) {
        if (got != due) {
            tell(call + " answered " + got + ", due is " + due);
        }
    }

    void same(String call, String got, String due) {
        if (!got.equals(due)) {
            tell(call + " answered \"" + got + "\", due is \"" + due + "\"");
        }
    }

    boolean allRight() {
        return wrong == 0;
    }

    void end() {
        System.out.println(wrong == 0 ? "all answers are as due" : wrong + " answers are not as due");
        if (wrong != 0) {
            System.exit(1);
        }
    }

    private void tell(String row) {
        wrong++;
        if (wrong <= MOST_ROWS) {
            System.out.println(row);
        }
    }

    static NotationParser typed(String text) {
        NotationParser parser = new NotationParser();
        type(parser, text);
        return parser;
    }

    static void type(NotationParser parser, String text) {
        for (int i = 0; i < text.length(); i++) {
            parser.append(text.charAt(i));
        }
    }

    static NotationParser accepted(String text) {
        NotationParser parser = typed(text);
        if (parser.accept() < 0) {
            throw new IllegalStateException("not accepted: " + text);
        }
        return parser;
    }

    static void retype(NotationParser parser, String text) {
        parser.clearText();
        type(parser, text);
    }

    static String printed(NotationParser parser, int reading) {
        StringBuilder text = new StringBuilder();
        for (int i = 0; i < parser.printedLength(reading); i++) {
            text.append((char) parser.printedCharacter(reading, i));
        }
        return text.toString();
    }

    static String spoken(NotationParser parser, int reading) {
        StringBuilder text = new StringBuilder();
        for (int i = 0; i < parser.speechLength(reading); i++) {
            text.append((char) parser.speechCharacter(reading, i));
        }
        return text.toString();
    }
}
