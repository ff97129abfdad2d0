import java.lang.management.ManagementFactory;
import java.lang.reflect.Constructor;
import java.lang.reflect.Field;
import java.lang.reflect.Method;
import java.lang.reflect.Modifier;
import java.nio.file.Files;
import java.nio.file.Path;
import java.util.Arrays;
import java.util.TreeSet;
import java.util.regex.Matcher;
import java.util.regex.Pattern;

/** What LANGUAGE.md asks for, as far as it can be seen from outside: the face, the words, the room. */
public final class LanguageTest {
    private static final Due DUE = new Due();
    private static final Path SOURCE = Path.of("src/main/java/NotationParser.java");
    private static final String FACE = "int accept() int append(int) int appendPrinted(int) int clearText() "
        + "int height(int) int linkHolds(int,int) int nextSolution(int,int,int) int nodeCount(int) "
        + "int occurrences(int) "
        + "int outcomeCount() int printedCharacter(int,int) int printedLength(int) int setVariable(int,int) "
        + "int speechCharacter(int,int) int speechLength(int) int status(int) int syntaxError() int textLength() "
        + "int treeCount() long value(int)";

    public static void main(String[] args) throws Exception {
        constants();
        face();
        classesInside();
        words();
        methods();
        room();
        DUE.end();
    }

    private static void constants() {
        DUE.same("INVALID_ARGUMENT", NotationParser.INVALID_ARGUMENT, -1);
        DUE.same("NO_FORMULA", NotationParser.NO_FORMULA, -2);
        DUE.same("NOT_FOUND", NotationParser.NOT_FOUND, -3);
        DUE.same("TEXT_FULL", NotationParser.TEXT_FULL, -4);
        DUE.same("SUCCESS", NotationParser.SUCCESS, 0);
        DUE.same("OVERFLOW", NotationParser.OVERFLOW, 1);
        DUE.same("DIVISION_BY_ZERO", NotationParser.DIVISION_BY_ZERO, 2);
        DUE.same("DOMAIN_ERROR", NotationParser.DOMAIN_ERROR, 3);
    }

    private static void face() {
        TreeSet<String> methods = new TreeSet<>();
        TreeSet<String> names = new TreeSet<>();
        for (Method method : NotationParser.class.getDeclaredMethods()) {
            if (!Modifier.isPrivate(method.getModifiers())) {
                String parameters = Arrays.toString(method.getParameterTypes()).replaceAll("[\\[\\] ]", "");
                methods.add(method.getReturnType() + " " + method.getName() + "(" + parameters + ")");
                names.add(method.getName());
            }
        }
        DUE.same("methods", String.join(" ", methods), FACE);
        for (Method method : NotationParser.class.getDeclaredMethods()) {
            if (Modifier.isPrivate(method.getModifiers()) && names.contains(method.getName())) {
                DUE.same("a private method's name", method.getName(), "another than a public one's");
            }
        }
        int fields = 0;
        for (Field field : NotationParser.class.getDeclaredFields()) {
            fields += Modifier.isPrivate(field.getModifiers()) ? 0 : 1;
            if (Modifier.isStatic(field.getModifiers()) && !Modifier.isFinal(field.getModifiers())) {
                DUE.same("static field", field.getName(), "final");
            }
        }
        DUE.same("fields that are not private", fields, 8);
        Constructor<?>[] constructors = NotationParser.class.getDeclaredConstructors();
        DUE.same("constructors", constructors.length, 1);
        DUE.same("public constructor", Modifier.isPublic(constructors[0].getModifiers()) ? 1 : 0, 1);
        DUE.same("final class", Modifier.isFinal(NotationParser.class.getModifiers()) ? 1 : 0, 1);
    }

    private static void classesInside() {
        Class<?>[] inside = NotationParser.class.getDeclaredClasses();
        DUE.same("no more than twelve classes", inside.length < 12 ? 1 : 0, 1);
        for (Class<?> one : inside) {
            DUE.same(one + " is static", Modifier.isStatic(one.getModifiers()) ? 1 : 0, 1);
            int open = Modifier.PUBLIC | Modifier.PROTECTED;
            DUE.same(one + " is private or package-visible", one.getModifiers() & open, 0);
        }
    }

    private static void words() throws Exception {
        String code = code();
        String[] refused = {"\\bthrow\\b", "\\bthrows\\b", "\\btry\\b", "\\bcatch\\b", "\\bsynchronized\\b",
            "\\bassert\\b", "\\bpackage\\b", "::", "Exact\\b", "static \\{", "\\bSystem\\.(?!arraycopy)",
            "\\bThread\\b", "\\bObject\\b", "\\bRandom\\b", "\\bException\\b"};
        for (String word : refused) {
            Matcher matcher = Pattern.compile(word).matcher(code);
            DUE.same("places with " + word, matcher.find() ? 1 : 0, 0);
        }
        for (char sign : Files.readString(SOURCE).toCharArray()) {
            if (sign > 126) {
                DUE.same("sign", sign, 126);
            }
        }
    }

    private static void methods() throws Exception {
        int start = -1;
        String[] lines = code().split("\n", -1);
        for (int i = 0; i < lines.length; i++) {
            String line = lines[i];
            if (line.matches("( {4}| {8})[\\w\\[\\]]+ .*\\) \\{") && !line.contains(" = ")) {
                start = i;
                int parameters = line.replaceAll("[^,]", "").length() + 1;
                DUE.same("parameters in line " + (i + 1), Math.max(parameters, 7), 7);
            } else if (line.matches("( {4}| {8})\\}") && start >= 0) {
                DUE.same("length of the method in line " + (start + 1), Math.max(i - start + 1, 60), 60);
                start = -1;
            }
        }
    }

    /** The source without comments and with its strings emptied; the lines stay in their places. */
    private static String code() throws Exception {
        String source = Files.readString(SOURCE);
        Matcher comment = Pattern.compile("/\\*.*?\\*/", Pattern.DOTALL).matcher(source);
        source = comment.replaceAll(match -> match.group().replaceAll("[^\n]", ""));
        return source.replaceAll("\"[^\"\n]*\"", "\"\"").replaceAll("//[^\n]*", "");
    }

    /** All calls of a run share one room: what a call makes has to stay far below its part of it. */
    private static void room() {
        var threads = (com.sun.management.ThreadMXBean) ManagementFactory.getThreadMXBean();
        long most = 0;
        for (int round = 0; round < 3; round++) {
            NotationParser parser = Due.typed("-x/2sqr'(x y+1)^3abs y:1..sgn xyz<=dbl 2x!=7");
            long before = threads.getThreadAllocatedBytes(Thread.currentThread().getId());
            for (int i = 0; i < 20; i++) {
                parser.syntaxError();
                parser.accept();
                parser.outcomeCount();
                parser.treeCount();
                parser.height(i % 4);
                parser.linkHolds(i % 4, 1);
                parser.nextSolution(i % 4, 23, -1000);
                parser.appendPrinted(0);
            }
            most = threads.getThreadAllocatedBytes(Thread.currentThread().getId()) - before;
        }
        DUE.same("bytes that 160 calls make, beyond a million", Math.max(most - 1000000, 0), 0);
    }
}
