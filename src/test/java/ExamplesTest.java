/** The four runs of the document's section 'Errors', call by call. */
public final class ExamplesTest {
    private static final Due DUE = new Due();

    public static void main(String[] args) {
        readingsWithTheSameValue();
        functionThatReachesWidelyOrNot();
        chainOfRelations();
        overflowAndFaultyText();
        DUE.end();
    }

    private static void append(NotationParser parser, int... characters) {
        for (int i = 0; i < characters.length; i++) {
            DUE.same("append(" + characters[i] + ")", parser.append(characters[i]), i + 1);
        }
    }

    private static void readingsWithTheSameValue() {
        NotationParser parser = new NotationParser();
        append(parser, 49, 47, 50, 120);
        DUE.same("1: accept()", parser.accept(), 0);
        DUE.same("1: setVariable(23, 5)", parser.setVariable(23, 5), 1);
        DUE.same("1: value(0)", parser.value(0), 0);
        DUE.same("1: value(1)", parser.value(1), 0);
        DUE.same("1: status(0)", parser.status(0), 0);
        DUE.same("1: treeCount()", parser.treeCount(), 2);
        DUE.same("1: outcomeCount()", parser.outcomeCount(), 1);
        DUE.same("1: printedLength(1)", parser.printedLength(1), 9);
    }

    private static void functionThatReachesWidelyOrNot() {
        NotationParser parser = new NotationParser();
        append(parser, 115, 113, 114, 32, 50, 120);
        DUE.same("2: accept()", parser.accept(), 0);
        DUE.same("2: setVariable(23, 3)", parser.setVariable(23, 3), 1);
        DUE.same("2: value(0)", parser.value(0), 12);
        DUE.same("2: value(2)", parser.value(2), 36);
        DUE.same("2: nodeCount(2)", parser.nodeCount(2), 4);
        DUE.same("2: height(0)", parser.height(0), 3);
    }

    private static void chainOfRelations() {
        NotationParser parser = new NotationParser();
        append(parser, 49, 60, 120, 60, 61, 51);
        DUE.same("3: accept()", parser.accept(), 2);
        DUE.same("3: value(0)", parser.value(0), 0);
        DUE.same("3: linkHolds(0, 0)", parser.linkHolds(0, 0), 0);
        DUE.same("3: linkHolds(0, 1)", parser.linkHolds(0, 1), 1);
        DUE.same("3: nextSolution(0, 23, -1000)", parser.nextSolution(0, 23, -1000), 1002);
        DUE.same("3: linkHolds(0, 2)", parser.linkHolds(0, 2), -3);
    }

    private static void overflowAndFaultyText() {
        NotationParser parser = new NotationParser();
        append(parser, 50, 94, 54, 51);
        DUE.same("4: accept()", parser.accept(), 0);
        DUE.same("4: status(0)", parser.status(0), 1);
        DUE.same("4: value(0)", parser.value(0), 0);
        DUE.same("4: clearText()", parser.clearText(), 4);
        append(parser, 50, 120, 51);
        DUE.same("4: syntaxError()", parser.syntaxError(), 2);
        DUE.same("4: accept()", parser.accept(), -2);
    }
}
