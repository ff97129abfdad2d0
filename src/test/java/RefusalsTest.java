import java.util.ArrayList;
import java.util.List;
import java.util.function.Supplier;
import java.util.function.ToLongFunction;

/**
 * 'Errors': "If several errors apply to a call, INVALID_ARGUMENT is returned rather than NO_FORMULA, and NO_FORMULA
 * rather than NOT_FOUND. A call that returns an error changes nothing."
 *
 * Each call that is refused is made on an object in each of several states; what the object answers afterwards is
 * compared with what its twin answers, which was made in the same way and never got that call. So are the calls
 * that only ask.
 */
public final class RefusalsTest {
    private static final int INVALID_ARGUMENT = NotationParser.INVALID_ARGUMENT;
    private static final int NO_FORMULA = NotationParser.NO_FORMULA;
    private static final int NOT_FOUND = NotationParser.NOT_FOUND;
    private static final int TEXT_FULL = NotationParser.TEXT_FULL;
    private static final Due DUE = new Due();

    private record Call(String name, ToLongFunction<NotationParser> call) { }

    /** The name of a state, how an object comes into it, and what makes a formula of its text. */
    private record State(String name, Supplier<NotationParser> made, String completion) { }

    public static void main(String[] args) {
        invalidArgumentsInEveryState();
        severalErrorsAtOnce();
        refusedByTheText();
        refusedByAFullText();
        notFound();
        refusedManyTimes();
        askingChangesNothing();
        acceptingTheSameTextAgain();
        DUE.end();
    }

    // ---- states

    private static NotationParser made(String accepted, String text) {
        NotationParser parser = Due.accepted(accepted);
        parser.setVariable(0, -1000);
        parser.setVariable('x' - 'a', 3);
        parser.setVariable('y' - 'a', 2);
        parser.setVariable(25, 1000);
        Due.retype(parser, text);
        return parser;
    }

    private static State state(String accepted, String text, String completion) {
        return new State("accepted " + accepted + ", text \"" + text + "\"", () -> made(accepted, text), completion);
    }

    private static List<State> states() {
        List<State> states = new ArrayList<>();
        states.add(new State("a new object", NotationParser::new, "x"));
        states.add(state("x", "", "y"));
        states.add(state("1/2sqr yx", "x+1", ""));
        states.add(state("8/yx=sqr yx:z..a<7", "2x", "y"));
        states.add(state("x/(x-3)", "(x", ")"));
        states.add(state("1=x:2^63..4", "x:1", "..2"));
        states.add(state("a^a+z", "abs''", "'x"));
        return states;
    }

    private static List<State> faultyStates() {
        List<State> states = new ArrayList<>();
        states.add(new State("a new object", NotationParser::new, "x"));
        for (String text : new String[] {"x+", "(x", "x:1", "abs", " ", "1<2<"}) {
            states.add(state("8/yx=sqr yx", text, text.equals("x:1") ? "..2" : text.equals("(x") ? ")" : "2"));
        }
        for (String text : new String[] {"x)", "1234567", "x 2", "x=x=x=x=x=x", "abs''''x", "!", "x..y"}) {
            states.add(state("1/2x", text, "+1"));
        }
        return states;
    }

    private static List<State> fullStates() {
        List<State> states = new ArrayList<>();
        states.add(state("1/2x", "x" + " ".repeat(77) + "+1", ""));
        states.add(state("8/yx=sqr yx", " ".repeat(79) + "(", ""));
        states.add(state("8/yx=sqr yx", "123456*".repeat(11) + "999", ""));
        return states;
    }

    // ---- comparing with the twin

    private static void changesNothing(State state, Call refused, long due) {
        NotationParser parser = state.made.get();
        NotationParser twin = state.made.get();
        DUE.same(refused.name + " with " + state.name, refused.call.applyAsLong(parser), due);
        compare(parser, twin, "after " + refused.name + " with " + state.name, state);
    }

    /** First what is accepted, then the text: by completing and accepting it. */
    private static void compare(NotationParser parser, NotationParser twin, String when, State state) {
        compareQueries(parser, twin, when);
        Due.type(parser, state.completion);
        Due.type(twin, state.completion);
        DUE.same("syntaxError() of the text " + when, parser.syntaxError(), twin.syntaxError());
        DUE.same("accept() of the text " + when, parser.accept(), twin.accept());
        compareTexts(parser, twin, when);
        DUE.same("clearText() " + when, parser.clearText(), twin.clearText());
        DUE.same("appendPrinted(0) " + when, parser.appendPrinted(0), twin.appendPrinted(0));
    }

    private static void compareQueries(NotationParser parser, NotationParser twin, String when) {
        DUE.same("textLength() " + when, parser.textLength(), twin.textLength());
        DUE.same("syntaxError() " + when, parser.syntaxError(), twin.syntaxError());
        for (int reading = 0; reading < 4; reading++) {
            DUE.same("status " + when, parser.status(reading), twin.status(reading));
            DUE.same("value " + when, parser.value(reading), twin.value(reading));
            DUE.same("nodeCount " + when, parser.nodeCount(reading), twin.nodeCount(reading));
            DUE.same("height " + when, parser.height(reading), twin.height(reading));
            DUE.same("nextSolution " + when, parser.nextSolution(reading, 23, -5), twin.nextSolution(reading, 23, -5));
            for (int link = 0; link < 4; link++) {
                DUE.same("linkHolds " + when, parser.linkHolds(reading, link), twin.linkHolds(reading, link));
            }
        }
        for (int letter = 0; letter < 26; letter++) {
            DUE.same("occurrences " + when, parser.occurrences(letter), twin.occurrences(letter));
        }
        DUE.same("outcomeCount() " + when, parser.outcomeCount(), twin.outcomeCount());
        DUE.same("treeCount() " + when, parser.treeCount(), twin.treeCount());
        compareTexts(parser, twin, when);
        // Last, since it may change what it asks for.
        int[][] kept = {{0, -1000}, {23, 3}, {24, 2}, {25, 1000}, {1, 0}};
        for (int[] row : kept) {
            DUE.same("variable " + row[0] + " " + when, parser.setVariable(row[0], row[1]),
                twin.setVariable(row[0], row[1]));
        }
    }

    private static void compareTexts(NotationParser parser, NotationParser twin, String when) {
        DUE.same("printed form " + when, Due.printed(parser, 1), Due.printed(twin, 1));
        DUE.same("speech text " + when, start(parser), start(twin));
        for (int reading = 0; reading < 4; reading++) {
            DUE.same("printedLength " + when, parser.printedLength(reading), twin.printedLength(reading));
            DUE.same("speechLength " + when, parser.speechLength(reading), twin.speechLength(reading));
        }
    }

    /** Some of the speech text: all of it would take more calls than one object has. */
    private static String start(NotationParser parser) {
        StringBuilder row = new StringBuilder();
        for (int i = 0; i < 30; i++) {
            row.append(parser.speechCharacter(2, i)).append(' ');
        }
        return row.toString();
    }

    // ---- the calls

    private static List<Call> invalidCalls() {
        List<Call> calls = new ArrayList<>();
        for (int character : new int[] {31, 127, -1, 0, 256 + 'x', Integer.MAX_VALUE, Integer.MIN_VALUE}) {
            calls.add(new Call("append(" + character + ")", parser -> parser.append(character)));
        }
        int[][] variables = {{-1, 5}, {26, 5}, {23, 1001}, {23, -1001}, {0, Integer.MAX_VALUE}, {26, 1001},
            {Integer.MIN_VALUE, 0}, {25, Integer.MIN_VALUE}};
        for (int[] row : variables) {
            calls.add(new Call("setVariable(" + row[0] + ", " + row[1] + ")",
                parser -> parser.setVariable(row[0], row[1])));
        }
        for (int letter : new int[] {-1, 26}) {
            calls.add(new Call("occurrences(" + letter + ")", parser -> parser.occurrences(letter)));
            calls.add(new Call("nextSolution(0, " + letter + ", 0)", parser -> parser.nextSolution(0, letter, 0)));
        }
        for (int from : new int[] {-1001, 1001}) {
            calls.add(new Call("nextSolution(0, 23, " + from + ")", parser -> parser.nextSolution(0, 23, from)));
        }
        for (int reading : new int[] {-1, 4}) {
            addInvalidReadings(calls, reading);
        }
        calls.add(new Call("linkHolds(0, -1)", parser -> parser.linkHolds(0, -1)));
        calls.add(new Call("printedCharacter(0, -1)", parser -> parser.printedCharacter(0, -1)));
        calls.add(new Call("speechCharacter(0, -1)", parser -> parser.speechCharacter(0, -1)));
        return calls;
    }

    private static void addInvalidReadings(List<Call> calls, int reading) {
        String of = "(" + reading;
        calls.add(new Call("status" + of + ")", parser -> parser.status(reading)));
        calls.add(new Call("linkHolds" + of + ", 0)", parser -> parser.linkHolds(reading, 0)));
        calls.add(new Call("nextSolution" + of + ", 23, 0)", parser -> parser.nextSolution(reading, 23, 0)));
        calls.add(new Call("nodeCount" + of + ")", parser -> parser.nodeCount(reading)));
        calls.add(new Call("height" + of + ")", parser -> parser.height(reading)));
        calls.add(new Call("printedLength" + of + ")", parser -> parser.printedLength(reading)));
        calls.add(new Call("printedCharacter" + of + ", 0)", parser -> parser.printedCharacter(reading, 0)));
        calls.add(new Call("speechLength" + of + ")", parser -> parser.speechLength(reading)));
        calls.add(new Call("speechCharacter" + of + ", 0)", parser -> parser.speechCharacter(reading, 0)));
        calls.add(new Call("appendPrinted" + of + ")", parser -> parser.appendPrinted(reading)));
    }

    /** "A call that returns an error changes nothing": INVALID_ARGUMENT, with a text of every sort. */
    private static void invalidArgumentsInEveryState() {
        List<State> states = states();
        states.addAll(faultyStates());
        states.addAll(fullStates());
        for (State state : states) {
            for (Call call : invalidCalls()) {
                changesNothing(state, call, INVALID_ARGUMENT);
            }
            changesNothing(state, new Call("value(-1)", parser -> parser.value(-1)), 0);
            changesNothing(state, new Call("value(4)", parser -> parser.value(4)), 0);
        }
    }

    /** "INVALID_ARGUMENT is returned rather than ... NOT_FOUND." */
    private static void severalErrorsAtOnce() {
        for (String text : new String[] {"0", "x", "1/0", "1=2"}) {
            for (int reading : new int[] {-1, 4}) {
                NotationParser parser = Due.accepted(text);
                DUE.same("no link of no reading", parser.linkHolds(reading, 9), INVALID_ARGUMENT);
                DUE.same("no character of no reading", parser.printedCharacter(reading, 900), INVALID_ARGUMENT);
                DUE.same("no speech of no reading", parser.speechCharacter(reading, 9000), INVALID_ARGUMENT);
                DUE.same("no solution of no reading", parser.nextSolution(reading, 0, 1000), INVALID_ARGUMENT);
                DUE.same("two wrong arguments", parser.linkHolds(reading, -1), INVALID_ARGUMENT);
                DUE.same("two wrong arguments", parser.printedCharacter(reading, -1), INVALID_ARGUMENT);
                DUE.same("two wrong arguments", parser.speechCharacter(reading, -1), INVALID_ARGUMENT);
            }
            NotationParser parser = Due.accepted(text);
            DUE.same("no solution for no letter", parser.nextSolution(0, 26, 1000), INVALID_ARGUMENT);
            DUE.same("no solution from nowhere", parser.nextSolution(0, 0, 1001), INVALID_ARGUMENT);
            DUE.same("three wrong arguments", parser.nextSolution(4, -1, -1001), INVALID_ARGUMENT);
            DUE.same("two wrong arguments", parser.setVariable(-1, 1001), INVALID_ARGUMENT);
        }
    }

    /** "A call that returns an error changes nothing": NO_FORMULA keeps the text and what was accepted. */
    private static void refusedByTheText() {
        for (State state : faultyStates()) {
            changesNothing(state, new Call("accept()", NotationParser::accept), NO_FORMULA);
        }
        changesNothing(fullStates().get(1), new Call("accept()", NotationParser::accept), NO_FORMULA);
    }

    /** "A call that returns an error changes nothing": TEXT_FULL keeps the text as it was, to its last character. */
    private static void refusedByAFullText() {
        for (State state : fullStates()) {
            for (int character : new int[] {32, '0', 'x', ')', 126}) {
                changesNothing(state, new Call("append(" + character + ")", parser -> parser.append(character)),
                    TEXT_FULL);
            }
            for (int reading = 0; reading < 4; reading++) {
                int chosen = reading;
                changesNothing(state, new Call("appendPrinted", parser -> parser.appendPrinted(chosen)), TEXT_FULL);
            }
        }
        // A printed form of nine characters, of which some but not all would find room.
        for (int length = 72; length <= 79; length++) {
            State state = state("1/2x", "7" + " ".repeat(length - 1), "x");
            changesNothing(state, new Call("appendPrinted(1)", parser -> parser.appendPrinted(1)), TEXT_FULL);
        }
        State state = state("x".repeat(40), "7", "x");
        changesNothing(state, new Call("appendPrinted(2)", parser -> parser.appendPrinted(2)), TEXT_FULL);
    }

    /** "A call that returns an error changes nothing": NOT_FOUND. */
    private static void notFound() {
        List<Call> calls = new ArrayList<>();
        for (int reading = 0; reading < 4; reading++) {
            int chosen = reading;
            calls.add(new Call("linkHolds, far", parser -> parser.linkHolds(chosen, 4)));
            calls.add(new Call("linkHolds, farthest", parser -> parser.linkHolds(chosen, Integer.MAX_VALUE)));
            calls.add(new Call("printedCharacter, far", parser -> parser.printedCharacter(chosen, 1000)));
            calls.add(new Call("speechCharacter, far", parser -> parser.speechCharacter(chosen, 5000)));
        }
        for (State state : states()) {
            for (Call call : calls) {
                changesNothing(state, call, NOT_FOUND);
            }
        }
        for (String accepted : new String[] {"0", "x!=x", "1/0", "x-x"}) {
            State state = state(accepted, "x+1", "");
            for (int letter : new int[] {0, 1, 23, 25}) {
                changesNothing(state, new Call("nextSolution(3, " + letter + ", -1000)",
                    parser -> parser.nextSolution(3, letter, -1000)), NOT_FOUND);
            }
            changesNothing(state, new Call("syntaxError()", NotationParser::syntaxError), NOT_FOUND);
        }
    }

    /** Nothing changes either when a call is refused again and again. */
    private static void refusedManyTimes() {
        State state = state("1/2x", "(x", ")");
        Call call = new Call("many refused calls", parser -> {
            long last = 0;
            for (int i = 0; i < 20; i++) {
                parser.accept();
                parser.append(200);
                parser.appendPrinted(4);
                parser.setVariable(23, 1001);
                last = parser.nextSolution(0, 26, i);
            }
            return last;
        });
        changesNothing(state, call, INVALID_ARGUMENT);
    }

    /** "Checks the formula text", "Evaluates the accepted formula" and so on: the calls that only ask. */
    private static void askingChangesNothing() {
        List<State> states = states();
        states.addAll(faultyStates());
        for (State state : states) {
            NotationParser parser = state.made.get();
            NotationParser twin = state.made.get();
            parser.syntaxError();
            parser.textLength();
            parser.outcomeCount();
            parser.treeCount();
            for (int reading = 3; reading >= 0; reading--) {
                parser.value(reading);
                parser.status(reading);
                parser.linkHolds(reading, 0);
                parser.nextSolution(reading, 23, -1000);
                parser.nextSolution(reading, 0, 1000);
                parser.nodeCount(reading);
                parser.height(reading);
                parser.printedCharacter(reading, 0);
                parser.speechCharacter(reading, 0);
            }
            parser.occurrences(23);
            compare(parser, twin, "after questions with " + state.name, state);
        }
    }

    /** "The text is kept", and the variables with it. */
    private static void acceptingTheSameTextAgain() {
        for (State state : states()) {
            NotationParser parser = state.made.get();
            NotationParser twin = state.made.get();
            Due.type(parser, state.completion);
            Due.type(twin, state.completion);
            DUE.same("accept() with " + state.name, parser.accept() < 0 ? 1 : 0, 0);
            parser.accept();
            parser.accept();
            twin.accept();
            compareQueries(parser, twin, "after accepting again with " + state.name);
            DUE.same("accept() once more with " + state.name, parser.accept(), twin.accept());
        }
    }
}
