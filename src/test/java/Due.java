/** What the tests share: comparing answers with the ones that are due, and typing texts. */
final class Due {
    private static final int MOST_ROWS = 40;
    // No text is longer; a length beyond it is wrong and is not read to its end.
    private static final int MOST_CHARACTERS = 5000;
    // An object is good for 512 calls; typing a text and accepting it may take 81 of them.
    private static final int CHARACTERS_OF_ONE_OBJECT = 400;
    private static final int MOST_SECONDS = 240;

    private int wrong;

    Due() {
        Thread watch = new Thread(Due::endWhatDoesNotEnd);
        watch.setDaemon(true);
        watch.start();
    }

    private static void endWhatDoesNotEnd() {
        try {
            Thread.sleep(MOST_SECONDS * 1000L);
        } catch (InterruptedException stopped) {
            return;
        }
        System.out.println("a call has not ended after " + MOST_SECONDS + " seconds");
        Runtime.getRuntime().halt(1);
    }

    void same(String call, long got, long due) {
        if (got != due) {
            tell(call + " answered " + got + ", due is " + due);
        }
    }

    void same(String call, String got, String due) {
        if (!got.equals(due)) {
            tell(call + " answered \"" + got + "\", due is \"" + due + "\"");
        }
    }

    boolean allRight() {
        return wrong == 0;
    }

    void end() {
        System.out.println(wrong == 0 ? "all answers are as due" : wrong + " answers are not as due");
        if (wrong != 0) {
            System.exit(1);
        }
    }

    private void tell(String row) {
        wrong++;
        if (wrong <= MOST_ROWS) {
            System.out.println(row);
        }
    }

    static NotationParser typed(String text) {
        NotationParser parser = new NotationParser();
        type(parser, text);
        return parser;
    }

    static void type(NotationParser parser, String text) {
        for (int i = 0; i < text.length(); i++) {
            parser.append(text.charAt(i));
        }
    }

    static NotationParser accepted(String text) {
        NotationParser parser = typed(text);
        if (parser.accept() < 0) {
            throw new IllegalStateException("not accepted: " + text);
        }
        return parser;
    }

    static void retype(NotationParser parser, String text) {
        parser.clearText();
        type(parser, text);
    }

    /** For texts that the object has calls enough left for. */
    static String printed(NotationParser parser, int reading) {
        StringBuilder row = new StringBuilder();
        int length = Math.min(parser.printedLength(reading), MOST_CHARACTERS);
        for (int i = 0; i < length; i++) {
            row.append((char) parser.printedCharacter(reading, i));
        }
        return row.toString();
    }

    /** For texts that the object has calls enough left for. */
    static String spoken(NotationParser parser, int reading) {
        StringBuilder row = new StringBuilder();
        int length = Math.min(parser.speechLength(reading), MOST_CHARACTERS);
        for (int i = 0; i < length; i++) {
            row.append((char) parser.speechCharacter(reading, i));
        }
        return row.toString();
    }

    /** The printed form of a text, read from as many objects as its length needs. */
    static String printedOf(String text, int reading) {
        StringBuilder row = new StringBuilder();
        NotationParser parser = accepted(text);
        int length = Math.min(parser.printedLength(reading), MOST_CHARACTERS);
        for (int i = 0; i < length; i++) {
            parser = i % CHARACTERS_OF_ONE_OBJECT == 0 ? accepted(text) : parser;
            row.append((char) parser.printedCharacter(reading, i));
        }
        return row.toString();
    }

    /** The speech text of a text, read from as many objects as its length needs. */
    static String spokenOf(String text, int reading) {
        StringBuilder row = new StringBuilder();
        NotationParser parser = accepted(text);
        int length = Math.min(parser.speechLength(reading), MOST_CHARACTERS);
        for (int i = 0; i < length; i++) {
            parser = i % CHARACTERS_OF_ONE_OBJECT == 0 ? accepted(text) : parser;
            row.append((char) parser.speechCharacter(reading, i));
        }
        return row.toString();
    }
}
