import java.lang.reflect.Field;
import java.lang.reflect.Method;
import java.lang.reflect.Modifier;
import java.nio.file.Files;
import java.nio.file.Path;
import java.util.regex.Pattern;

/** README.md: its example answers what its comments say, and it names all that the class offers. */
public final class ReadmeTest {
    private static final Due DUE = new Due();

    public static void main(String[] args) throws Exception {
        String page = Files.readString(Path.of("README.md"));
        example(page);
        readings();
        names(page);
        DUE.end();
    }

    private static void example(String page) {
        NotationParser parser = new NotationParser();
        for (char character : "12/2x".toCharArray()) {
            parser.append(character);
        }
        row(page, "parser.syntaxError()", parser.syntaxError());
        row(page, "parser.accept()", parser.accept());
        row(page, "parser.setVariable(23, 3)", parser.setVariable(23, 3));
        row(page, "parser.value(0)", parser.value(0));
        row(page, "parser.value(1)", parser.value(1));
        row(page, "parser.outcomeCount()", parser.outcomeCount());
        row(page, "parser.printedLength(1)", parser.printedLength(1));
        row(page, "parser.printedCharacter(1, 0)", parser.printedCharacter(1, 0));
        row(page, "parser.nextSolution(1, 23, 1)", parser.nextSolution(1, 23, 1));
        DUE.same("printed form", Due.printed(parser, 1), "(12/(2*x))");
    }

    /** The page has the call with this answer at the start of its comment. */
    private static void row(String page, String call, long answer) {
        boolean stands = Pattern.compile(Pattern.quote(call) + "; +// " + answer + "[:,]").matcher(page).find();
        DUE.same("README.md's row of " + call + " with " + answer, stands ? 1 : 0, 1);
    }

    /** What the page's table of readings says of 1/2x and sqr 2x. */
    private static void readings() {
        String[] fractions = {"((1/2)*x)", "(1/(2*x))", "((1/2)*x)", "(1/(2*x))"};
        String[] squares = {"(sqr(2)*x)", "(sqr(2)*x)", "sqr((2*x))", "sqr((2*x))"};
        for (int reading = 0; reading < 4; reading++) {
            DUE.same("1/2x", Due.printedOf("1/2x", reading), fractions[reading]);
            DUE.same("sqr 2x", Due.printedOf("sqr 2x", reading), squares[reading]);
        }
    }

    private static void names(String page) {
        for (Method method : NotationParser.class.getDeclaredMethods()) {
            if (Modifier.isPublic(method.getModifiers())) {
                named(page, "`" + method.getName() + "(");
            }
        }
        for (Field field : NotationParser.class.getDeclaredFields()) {
            if (Modifier.isPublic(field.getModifiers())) {
                named(page, "`" + field.getName() + "`");
            }
        }
    }

    private static void named(String page, String name) {
        DUE.same("README.md names " + name, page.contains(name) ? 1 : 0, 1);
    }
}
