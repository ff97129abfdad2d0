import java.math.BigInteger;
import java.util.ArrayList;
import java.util.HashSet;
import java.util.List;
import java.util.Set;
import java.util.regex.Matcher;
import java.util.regex.Pattern;

/**
 * The document once more, to compare with: by the rules of its grammar, with recursion, strings and
 * BigInteger, and with nothing in common with the class under test.
 */
final class Reference {
    private static final Pattern TOKEN = Pattern.compile(
        "[0-9]+|abs|sgn|sqr|dbl|[a-z]|'|<=|>=|!=|\\.\\.|[-+*/^()=<>:]|[^ ]");
    private static final Set<String> RELATIONS = Set.of("=", "<", ">", "<=", ">=", "!=");
    private static final BigInteger LEAST = BigInteger.valueOf(Long.MIN_VALUE);
    private static final BigInteger GREATEST = BigInteger.valueOf(Long.MAX_VALUE);

    private final StringBuilder text = new StringBuilder();
    private final int[] variables = new int[26];
    private Formula accepted;

    Reference() {
        accepted = new Grammar("0").formula();
    }

    // ---- the syntax, as the grammar has it

    private record Formula(List<Sum> sums, List<String> joints) { }

    private record Sum(boolean negated, List<Term> terms, List<String> operators) { }

    private record Term(List<Product> products, List<String> operators) { }

    private record Product(List<Power> powers) { }

    private record Power(Primary base, Power exponent) { }

    private record Primary(String leaf, Sum sum, String function, int primes, Product argument) { }

    private static final class Fault extends RuntimeException {
        private static final long serialVersionUID = 1;
        final int index;

        Fault(int index) {
            super(null, null, false, false);
            this.index = index;
        }
    }

    private static final class Grammar {
        private final List<String> tokens = new ArrayList<>();
        private final List<Integer> starts = new ArrayList<>();
        private final int length;
        private int at;

        Grammar(String text) {
            length = text.length();
            Matcher matcher = TOKEN.matcher(text);
            while (matcher.find()) {
                tokens.add(matcher.group());
                starts.add(matcher.start());
            }
        }

        Formula formula() {
            List<Sum> sums = new ArrayList<>();
            List<String> joints = new ArrayList<>();
            sums.add(sum());
            int links = 0;
            while (at < tokens.size()) {
                if (links == 4 || !RELATIONS.contains(next()) && !is(":")) {
                    throw fault();
                }
                links++;
                boolean between = is(":");
                joints.add(take());
                sums.add(sum());
                if (between) {
                    if (!is("..")) {
                        throw fault();
                    }
                    joints.add(take());
                    sums.add(sum());
                }
            }
            return new Formula(sums, joints);
        }

        private Sum sum() {
            boolean negated = is("-");
            if (negated) {
                take();
            }
            List<Term> terms = new ArrayList<>(List.of(term()));
            List<String> operators = new ArrayList<>();
            while (is("+") || is("-")) {
                operators.add(take());
                terms.add(term());
            }
            return new Sum(negated, terms, operators);
        }

        private Term term() {
            List<Product> products = new ArrayList<>(List.of(product()));
            List<String> operators = new ArrayList<>();
            while (is("*") || is("/")) {
                operators.add(take());
                products.add(product());
            }
            return new Term(products, operators);
        }

        private Product product() {
            List<Power> powers = new ArrayList<>(List.of(power()));
            while (isFunction() || isVariable() || is("(")) {
                powers.add(power());
            }
            return new Product(powers);
        }

        private Power power() {
            Primary base = primary();
            if (!is("^")) {
                return new Power(base, null);
            }
            take();
            return new Power(base, power());
        }

        private Primary primary() {
            if (isFunction()) {
                String function = take();
                int primes = 0;
                while (is("'") && primes < 3) {
                    take();
                    primes++;
                }
                return new Primary(null, null, function, primes, product());
            }
            if (is("(")) {
                take();
                Sum sum = sum();
                if (!is(")")) {
                    throw fault();
                }
                take();
                return new Primary(null, sum, null, 0, null);
            }
            if (isVariable() || next().matches("[0-9]{1,6}")) {
                return new Primary(take(), null, null, 0, null);
            }
            throw fault();
        }

        private String next() {
            return at < tokens.size() ? tokens.get(at) : "";
        }

        private boolean is(String token) {
            return next().equals(token);
        }

        private boolean isFunction() {
            return next().matches("abs|sgn|sqr|dbl");
        }

        private boolean isVariable() {
            return next().matches("[a-z]");
        }

        private String take() {
            return tokens.get(at++);
        }

        private Fault fault() {
            return new Fault(at < tokens.size() ? starts.get(at) : length);
        }
    }

    // ---- the trees of a reading

    /** A leaf has neither operand, a negation ("-") and a function only the left one. */
    private record Node(String name, int primes, Node left, Node right) {
        boolean isLeaf() {
            return left == null;
        }

        boolean isFunction() {
            return name.length() == 3 && left != null && right == null;
        }

        int nodes() {
            return 1 + (left == null ? 0 : left.nodes()) + (right == null ? 0 : right.nodes());
        }

        int height() {
            return 1 + Math.max(left == null ? 0 : left.height(), right == null ? 0 : right.height());
        }

        String printed() {
            if (isLeaf()) {
                return name;
            }
            if (isFunction()) {
                return name + "'".repeat(primes) + "(" + left.printed() + ")";
            }
            if (right == null) {
                return "(-" + left.printed() + ")";
            }
            return "(" + left.printed() + (name.equals("by") ? "*" : name) + right.printed() + ")";
        }

        String spoken() {
            if (isLeaf()) {
                return name;
            }
            if (isFunction()) {
                return name + " prime".repeat(primes) + " of " + left.operand();
            }
            if (right == null) {
                return "minus " + left.operand();
            }
            String word = switch (name) {
                case "+" -> "plus";
                case "-" -> "minus";
                case "*" -> "times";
                case "/" -> "over";
                case "^" -> "to";
                default -> name;
            };
            return left.operand() + " " + word + " " + right.operand();
        }

        private String operand() {
            return isLeaf() || isFunction() ? spoken() : "open " + spoken() + " close";
        }
    }

    private static Node combine(String operator, Node left, Node right) {
        return new Node(operator, 0, left, right);
    }

    private static Node tree(Sum sum, int reading) {
        Node node = tree(sum.terms.get(0), reading);
        if (sum.negated) {
            node = new Node("-", 0, node, null);
        }
        for (int i = 1; i < sum.terms.size(); i++) {
            node = combine(sum.operators.get(i - 1), node, tree(sum.terms.get(i), reading));
        }
        return node;
    }

    private static Node tree(Term term, int reading) {
        boolean tight = reading % 2 == 1;
        Node node = null;
        for (int i = 0; i < term.products.size(); i++) {
            List<Node> factors = factors(term.products.get(i), reading);
            if (tight) {
                factors = List.of(multiplied(factors));
            }
            for (int j = 0; j < factors.size(); j++) {
                String operator = j > 0 || i == 0 ? "by" : term.operators.get(i - 1);
                node = node == null ? factors.get(j) : combine(operator, node, factors.get(j));
            }
        }
        return node;
    }

    private static Node multiplied(List<Node> factors) {
        Node node = factors.get(0);
        for (int i = 1; i < factors.size(); i++) {
            node = combine("by", node, factors.get(i));
        }
        return node;
    }

    private static List<Node> factors(Product product, int reading) {
        List<Node> factors = new ArrayList<>();
        for (Power power : product.powers) {
            factors.addAll(factors(power, reading));
        }
        return factors;
    }

    /** The power itself, and the powers that a function in it leaves to the product around it. */
    private static List<Node> factors(Power power, int reading) {
        List<Node> factors = factors(power.base, reading);
        if (power.exponent == null) {
            return factors;
        }
        List<Node> exponent = new ArrayList<>(factors(power.exponent, reading));
        exponent.set(0, combine("^", factors.get(0), exponent.get(0)));
        return exponent;
    }

    private static List<Node> factors(Primary primary, int reading) {
        if (primary.sum != null) {
            return List.of(tree(primary.sum, reading));
        }
        if (primary.leaf != null) {
            return List.of(new Node(primary.leaf.replaceFirst("^0+(?=[0-9])", ""), 0, null, null));
        }
        boolean wide = reading >= 2;
        List<Node> factors = new ArrayList<>(factors(primary.argument, reading));
        Node argument = wide ? multiplied(factors) : factors.get(0);
        Node node = new Node(primary.function, primary.primes, argument, null);
        if (wide) {
            return List.of(node);
        }
        factors.set(0, node);
        return factors;
    }

    // ---- evaluation

    private static final class Failure extends RuntimeException {
        private static final long serialVersionUID = 1;
        final int status;

        Failure(int status) {
            super(null, null, false, false);
            this.status = status;
        }
    }

    private static BigInteger fitting(BigInteger value) {
        if (value.compareTo(LEAST) < 0 || value.compareTo(GREATEST) > 0) {
            throw new Failure(1);
        }
        return value;
    }

    private BigInteger evaluate(Node node) {
        if (node.isLeaf()) {
            char first = node.name.charAt(0);
            return first >= 'a' ? BigInteger.valueOf(variables[first - 'a']) : new BigInteger(node.name);
        }
        BigInteger left = evaluate(node.left);
        if (node.isFunction()) {
            return primed(node.name, node.primes, left);
        }
        if (node.right == null) {
            return fitting(left.negate());
        }
        BigInteger right = evaluate(node.right);
        switch (node.name) {
            case "+":
                return fitting(left.add(right));
            case "-":
                return fitting(left.subtract(right));
            case "/":
                if (right.signum() == 0) {
                    throw new Failure(2);
                }
                return fitting(left.divide(right));
            case "^":
                return raised(left, right);
            default:
                return fitting(left.multiply(right));
        }
    }

    private static BigInteger raised(BigInteger base, BigInteger exponent) {
        if (exponent.signum() < 0) {
            throw new Failure(3);
        }
        if (base.abs().compareTo(BigInteger.ONE) <= 0) {
            return base.pow(exponent.signum() == 0 ? 0 : exponent.testBit(0) ? 1 : 2);
        }
        BigInteger power = BigInteger.ONE;
        for (BigInteger i = BigInteger.ZERO; i.compareTo(exponent) < 0; i = i.add(BigInteger.ONE)) {
            power = fitting(power.multiply(base));
        }
        return power;
    }

    private static BigInteger primed(String function, int primes, BigInteger x) {
        if (primes > 0) {
            BigInteger next = primed(function, primes - 1, fitting(x.add(BigInteger.ONE)));
            return fitting(next.subtract(primed(function, primes - 1, x)));
        }
        switch (function) {
            case "abs":
                return fitting(x.abs());
            case "sgn":
                return BigInteger.valueOf(x.signum());
            case "sqr":
                return fitting(x.multiply(x));
            default:
                return fitting(x.add(x));
        }
    }

    /** The status, the value, and for each link whether it holds. */
    private record Outcome(int status, long value, List<Boolean> links) { }

    private Outcome outcome(int reading) {
        List<Boolean> holds = new ArrayList<>();
        try {
            List<BigInteger> values = new ArrayList<>();
            for (Sum sum : accepted.sums) {
                values.add(evaluate(tree(sum, reading)));
            }
            for (int i = 0; i < accepted.joints.size(); i++) {
                String joint = accepted.joints.get(i);
                int order = values.get(i).compareTo(values.get(i + 1));
                switch (joint) {
                    case "=" -> holds.add(order == 0);
                    case "<" -> holds.add(order < 0);
                    case ">" -> holds.add(order > 0);
                    case "<=" -> holds.add(order <= 0);
                    case ">=" -> holds.add(order >= 0);
                    case "!=" -> holds.add(order != 0);
                    case ":" -> holds.add(order >= 0 && values.get(i).compareTo(values.get(i + 2)) <= 0);
                    default -> { }
                }
            }
            long value = holds.isEmpty() ? values.get(0).longValueExact() : holds.contains(false) ? 0 : 1;
            return new Outcome(0, value, holds);
        } catch (Failure failure) {
            return new Outcome(failure.status, 0, holds);
        }
    }

    // ---- the face

    private static boolean isReading(int reading) {
        return 0 <= reading && reading <= 3;
    }

    private static boolean isLetter(int letter) {
        return 0 <= letter && letter <= 25;
    }

    int append(int character) {
        if (character < 32 || character > 126) {
            return -1;
        }
        if (text.length() == 80) {
            return -4;
        }
        text.append((char) character);
        return text.length();
    }

    int clearText() {
        int length = text.length();
        text.setLength(0);
        return length;
    }

    int syntaxError() {
        try {
            new Grammar(text.toString()).formula();
            return -3;
        } catch (Fault fault) {
            return fault.index;
        }
    }

    int accept() {
        try {
            accepted = new Grammar(text.toString()).formula();
            return linkCount();
        } catch (Fault fault) {
            return -2;
        }
    }

    private int linkCount() {
        int links = 0;
        for (String joint : accepted.joints) {
            links += joint.equals("..") ? 0 : 1;
        }
        return links;
    }

    int setVariable(int letter, int value) {
        if (!isLetter(letter) || value < -1000 || value > 1000) {
            return -1;
        }
        int changed = variables[letter] == value ? 0 : 1;
        variables[letter] = value;
        return changed;
    }

    int occurrences(int letter) {
        if (!isLetter(letter)) {
            return -1;
        }
        int found = 0;
        for (Sum sum : accepted.sums) {
            found += occurrences(tree(sum, 0), "" + (char) ('a' + letter));
        }
        return found;
    }

    private static int occurrences(Node node, String name) {
        if (node == null) {
            return 0;
        }
        return (node.name.equals(name) ? 1 : 0) + occurrences(node.left, name) + occurrences(node.right, name);
    }

    int status(int reading) {
        return isReading(reading) ? outcome(reading).status : -1;
    }

    long value(int reading) {
        return isReading(reading) ? outcome(reading).value : 0;
    }

    int linkHolds(int reading, int link) {
        if (!isReading(reading) || link < 0) {
            return -1;
        }
        if (link >= linkCount()) {
            return -3;
        }
        Outcome outcome = outcome(reading);
        return outcome.status == 0 && outcome.links.get(link) ? 1 : 0;
    }

    int outcomeCount() {
        Set<String> outcomes = new HashSet<>();
        for (int reading = 0; reading < 4; reading++) {
            Outcome outcome = outcome(reading);
            outcomes.add(outcome.status + " " + outcome.value);
        }
        return outcomes.size();
    }

    int nextSolution(int reading, int letter, int from) {
        if (!isReading(reading) || !isLetter(letter) || from < -1000 || from > 1000) {
            return -1;
        }
        int kept = variables[letter];
        int found = -3;
        for (int value = 1000; value >= from; value--) {
            variables[letter] = value;
            if (outcome(reading).value != 0) {
                found = value + 1000;
            }
        }
        variables[letter] = kept;
        return found;
    }

    int nodeCount(int reading) {
        if (!isReading(reading)) {
            return -1;
        }
        int nodes = 0;
        for (Sum sum : accepted.sums) {
            nodes += tree(sum, reading).nodes();
        }
        return nodes;
    }

    int height(int reading) {
        if (!isReading(reading)) {
            return -1;
        }
        int height = 0;
        for (Sum sum : accepted.sums) {
            height = Math.max(height, tree(sum, reading).height());
        }
        return height;
    }

    int treeCount() {
        Set<String> forms = new HashSet<>();
        for (int reading = 0; reading < 4; reading++) {
            forms.add(printed(reading));
        }
        return forms.size();
    }

    int printedLength(int reading) {
        return isReading(reading) ? printed(reading).length() : -1;
    }

    int printedCharacter(int reading, int index) {
        return isReading(reading) ? character(printed(reading), index) : -1;
    }

    int speechLength(int reading) {
        return isReading(reading) ? spoken(reading).length() : -1;
    }

    int speechCharacter(int reading, int index) {
        return isReading(reading) ? character(spoken(reading), index) : -1;
    }

    int appendPrinted(int reading) {
        if (!isReading(reading)) {
            return -1;
        }
        String printed = printed(reading);
        if (text.length() + printed.length() > 80) {
            return -4;
        }
        text.append(printed);
        return text.length();
    }

    int textLength() {
        return text.length();
    }

    String text() {
        return text.toString();
    }

    private static int character(String row, int index) {
        if (index < 0) {
            return -1;
        }
        return index < row.length() ? row.charAt(index) : -3;
    }

    String printed(int reading) {
        StringBuilder form = new StringBuilder(tree(accepted.sums.get(0), reading).printed());
        for (int i = 0; i < accepted.joints.size(); i++) {
            form.append(accepted.joints.get(i)).append(tree(accepted.sums.get(i + 1), reading).printed());
        }
        return form.toString();
    }

    String spoken(int reading) {
        StringBuilder speech = new StringBuilder(tree(accepted.sums.get(0), reading).spoken());
        for (int i = 0; i < accepted.joints.size(); i++) {
            String word = switch (accepted.joints.get(i)) {
                case "=" -> "equals";
                case "<" -> "below";
                case ">" -> "above";
                case "<=" -> "upto";
                case ">=" -> "downto";
                case "!=" -> "unlike";
                case ":" -> "from";
                default -> "to";
            };
            speech.append(' ').append(word).append(' ').append(tree(accepted.sums.get(i + 1), reading).spoken());
        }
        return speech.toString();
    }
}
