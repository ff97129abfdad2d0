/**
 * A parser and evaluator for a small mathematical notation with juxtaposed products and functions
 * without brackets. What the notation leaves open is settled in four readings; all four are built
 * when a text is accepted, so that the queries only look at them.
 */
public final class NotationParser {
    public static final int INVALID_ARGUMENT = -1;
    public static final int NO_FORMULA = -2;
    public static final int NOT_FOUND = -3;
    public static final int TEXT_FULL = -4;
    public static final int SUCCESS = 0, OVERFLOW = 1, DIVISION_BY_ZERO = 2, DOMAIN_ERROR = 3;

    private static final int FIRST_CHARACTER = 32;
    private static final int LAST_CHARACTER = 126;
    private static final int MAX_TEXT = 80;
    private static final int MAX_DIGITS = 6;
    private static final int MAX_PRIMES = 3;
    private static final int MAX_LINKS = 4;
    private static final int MAX_SUMS = 2 * MAX_LINKS + 1;
    private static final int READINGS = 4;
    private static final int LETTERS = 26;
    private static final int MAX_VALUE = 1000;

    // A character of the text makes at most one node of its own and one juxtaposition.
    private static final int MAX_NODES = 2 * MAX_TEXT;
    // A variable and its juxtaposition, (x*y), print the most for one character of the text.
    private static final int MAX_PRINTED = 4 * MAX_TEXT;
    // A minus or an asterisk whose operation stands in "open", "close" speaks the most.
    private static final int MAX_SPOKEN = 18 * MAX_TEXT;

    private static final int NONE = -1;

    // The kinds of tokens and of nodes. Their order is what the tests below (isFunction and so on)
    // go by.
    private static final int NO_TOKEN = 0;
    private static final int NUMBER = 1;
    private static final int VARIABLE = 2;
    private static final int ABS = 3;
    private static final int SGN = 4;
    private static final int SQR = 5;
    private static final int DBL = 6;
    private static final int PLUS = 7;
    private static final int MINUS = 8;
    private static final int TIMES = 9;
    private static final int OVER = 10;
    private static final int POWER = 11;
    private static final int JUXTAPOSITION = 12;
    private static final int NEGATION = 13;
    private static final int EQUALS = 14;
    private static final int BELOW = 15;
    private static final int ABOVE = 16;
    private static final int UPTO = 17;
    private static final int DOWNTO = 18;
    private static final int UNLIKE = 19;
    private static final int WITHIN = 20;
    private static final int DOTS = 21;
    private static final int OPEN = 22;
    private static final int CLOSE = 23;
    private static final int PRIME = 24;

    private final CharRow text = new CharRow(MAX_TEXT);
    private final int[] variables = new int[LETTERS];
    private final Tokens tokens = new Tokens();
    private final Syntax syntax = new Syntax();
    private final Printer printer = new Printer();
    private final Speaker speaker = new Speaker();
    private final Evaluator evaluator = new Evaluator();
    private final Reading plain = new Reading(false, false);
    private final Reading tight = new Reading(true, false);
    private final Reading wide = new Reading(false, true);
    private final Reading tightAndWide = new Reading(true, true);

    public NotationParser() {
        text.put('0');
        acceptText();
        text.clear();
    }

    // ---- text

    public int append(int character) {
        if (character < FIRST_CHARACTER || character > LAST_CHARACTER) {
            return INVALID_ARGUMENT;
        }
        if (text.room() == 0) {
            return TEXT_FULL;
        }
        text.put(character);
        return text.size();
    }

    public int clearText() {
        int length = text.size();
        text.clear();
        return length;
    }

    public int syntaxError() {
        tokens.read(text);
        int fault = syntax.firstFault(tokens);
        if (fault == NONE) {
            return NOT_FOUND;
        }
        return fault < tokens.size() ? tokens.startOf(fault) : text.size();
    }

    public int accept() {
        return acceptText();
    }

    // ---- variables

    public int setVariable(int letter, int value) {
        if (!isLetterIndex(letter) || !isVariableValue(value)) {
            return INVALID_ARGUMENT;
        }
        if (variables[letter] == value) {
            return 0;
        }
        variables[letter] = value;
        return 1;
    }

    public int occurrences(int letter) {
        if (!isLetterIndex(letter)) {
            return INVALID_ARGUMENT;
        }
        return plain.tree.countVariable(letter);
    }

    // ---- evaluation

    public int status(int reading) {
        if (!isReading(reading)) {
            return INVALID_ARGUMENT;
        }
        Reading chosen = readingOf(reading);
        chosen.judge(evaluator, variables);
        return chosen.status;
    }

    public long value(int reading) {
        if (!isReading(reading)) {
            return 0;
        }
        Reading chosen = readingOf(reading);
        chosen.judge(evaluator, variables);
        return chosen.result;
    }

    public int linkHolds(int reading, int link) {
        if (!isReading(reading) || link < 0) {
            return INVALID_ARGUMENT;
        }
        Reading chosen = readingOf(reading);
        int sum = chosen.tree.sumOfLink(link);
        if (sum == NONE) {
            return NOT_FOUND;
        }
        chosen.judge(evaluator, variables);
        if (chosen.status != SUCCESS) {
            return 0;
        }
        return evaluator.holds(chosen.tree, sum) ? 1 : 0;
    }

    public int outcomeCount() {
        int different = 0;
        for (int reading = 0; reading < READINGS; reading++) {
            Reading chosen = readingOf(reading);
            chosen.judge(evaluator, variables);
            boolean isNew = true;
            for (int earlier = 0; earlier < reading; earlier++) {
                isNew = isNew && !chosen.hasOutcomeOf(readingOf(earlier));
            }
            different += isNew ? 1 : 0;
        }
        return different;
    }

    public int nextSolution(int reading, int letter, int from) {
        if (!isReading(reading) || !isLetterIndex(letter) || !isVariableValue(from)) {
            return INVALID_ARGUMENT;
        }
        Reading chosen = readingOf(reading);
        // A variable that the formula lacks changes nothing: one value stands for all.
        int last = chosen.tree.countVariable(letter) == 0 ? from : MAX_VALUE;
        int kept = variables[letter];
        int found = NOT_FOUND;
        for (int candidate = from; candidate <= last && found == NOT_FOUND; candidate++) {
            variables[letter] = candidate;
            chosen.judge(evaluator, variables);
            if (chosen.status == SUCCESS && chosen.result != 0) {
                found = candidate + MAX_VALUE;
            }
        }
        variables[letter] = kept;
        return found;
    }

    // ---- trees

    public int nodeCount(int reading) {
        return isReading(reading) ? readingOf(reading).tree.size() : INVALID_ARGUMENT;
    }

    public int height(int reading) {
        return isReading(reading) ? readingOf(reading).tree.greatestHeight() : INVALID_ARGUMENT;
    }

    public int treeCount() {
        int different = 0;
        for (int reading = 0; reading < READINGS; reading++) {
            CharRow printed = readingOf(reading).printed;
            boolean isNew = true;
            for (int earlier = 0; earlier < reading; earlier++) {
                isNew = isNew && !printed.isSameAs(readingOf(earlier).printed);
            }
            different += isNew ? 1 : 0;
        }
        return different;
    }

    // ---- printing and speech

    public int printedLength(int reading) {
        return isReading(reading) ? readingOf(reading).printed.size() : INVALID_ARGUMENT;
    }

    public int printedCharacter(int reading, int index) {
        if (!isReading(reading) || index < 0) {
            return INVALID_ARGUMENT;
        }
        return readingOf(reading).printed.at(index);
    }

    public int speechLength(int reading) {
        return isReading(reading) ? readingOf(reading).spoken.size() : INVALID_ARGUMENT;
    }

    public int speechCharacter(int reading, int index) {
        if (!isReading(reading) || index < 0) {
            return INVALID_ARGUMENT;
        }
        return readingOf(reading).spoken.at(index);
    }

    public int appendPrinted(int reading) {
        if (!isReading(reading)) {
            return INVALID_ARGUMENT;
        }
        CharRow printed = readingOf(reading).printed;
        if (printed.size() > text.room()) {
            return TEXT_FULL;
        }
        text.putRow(printed);
        return text.size();
    }

    public int textLength() {
        return text.size();
    }

    // ---- what the calls share

    private int acceptText() {
        tokens.read(text);
        if (syntax.firstFault(tokens) != NONE) {
            return NO_FORMULA;
        }
        for (int reading = 0; reading < READINGS; reading++) {
            Reading chosen = readingOf(reading);
            chosen.builder.build(tokens);
            printer.write(chosen.tree, chosen.printed);
            speaker.write(chosen.tree, chosen.spoken);
        }
        return plain.tree.linkCount();
    }

    private Reading readingOf(int reading) {
        switch (reading) {
            case 1:
                return tight;
            case 2:
                return wide;
            case 3:
                return tightAndWide;
            default:
                return plain;
        }
    }

    private static boolean isReading(int reading) {
        return reading >= 0 && reading < READINGS;
    }

    private static boolean isLetterIndex(int letter) {
        return letter >= 0 && letter < LETTERS;
    }

    private static boolean isVariableValue(int value) {
        return value >= -MAX_VALUE && value <= MAX_VALUE;
    }

    private static boolean isFunction(int kind) {
        return kind >= ABS && kind <= DBL;
    }

    private static boolean isOperator(int kind) {
        return kind >= PLUS && kind <= POWER;
    }

    private static boolean isBinary(int kind) {
        return kind >= PLUS && kind <= JUXTAPOSITION;
    }

    private static boolean isBinaryOrNegation(int kind) {
        return kind >= PLUS && kind <= NEGATION;
    }

    private static boolean startsLink(int kind) {
        return kind >= EQUALS && kind <= WITHIN;
    }

    private static boolean startsSum(int kind) {
        return kind >= EQUALS && kind <= DOTS;
    }

    private static boolean startsPower(int kind) {
        return kind >= NUMBER && kind <= DBL || kind == OPEN;
    }

    private static String symbolOf(int kind) {
        switch (kind) {
            case ABS: return "abs";
            case SGN: return "sgn";
            case SQR: return "sqr";
            case DBL: return "dbl";
            case PLUS: return "+";
            case MINUS: return "-";
            case TIMES: return "*";
            case OVER: return "/";
            case POWER: return "^";
            case JUXTAPOSITION: return "*";
            case EQUALS: return "=";
            case BELOW: return "<";
            case ABOVE: return ">";
            case UPTO: return "<=";
            case DOWNTO: return ">=";
            case UNLIKE: return "!=";
            case WITHIN: return ":";
            case DOTS: return "..";
            default: return "";
        }
    }

    private static String wordOf(int kind) {
        switch (kind) {
            case PLUS: return "plus";
            case MINUS: return "minus";
            case TIMES: return "times";
            case OVER: return "over";
            case POWER: return "to";
            case JUXTAPOSITION: return "by";
            case EQUALS: return "equals";
            case BELOW: return "below";
            case ABOVE: return "above";
            case UPTO: return "upto";
            case DOWNTO: return "downto";
            case UNLIKE: return "unlike";
            case WITHIN: return "from";
            case DOTS: return "to";
            default: return "";
        }
    }

    /** A row of characters that never outgrows the room it was made with. */
    private static final class CharRow {
        private final char[] characters;
        private int count;

        CharRow(int room) {
            characters = new char[Math.max(room, 0)];
        }

        int size() {
            return count;
        }

        int room() {
            return characters.length - count;
        }

        void clear() {
            count = 0;
        }

        void put(int character) {
            if (count < characters.length) {
                characters[count] = (char) character;
                count++;
            }
        }

        void putWord(String word) {
            for (int i = 0; i < word.length(); i++) {
                put(word.charAt(i));
            }
        }

        void putRow(CharRow other) {
            for (int i = 0; i < other.size(); i++) {
                put(other.at(i));
            }
        }

        int at(int index) {
            return index >= 0 && index < count ? characters[index] : NOT_FOUND;
        }

        boolean isSameAs(CharRow other) {
            boolean same = count == other.size();
            for (int i = 0; i < count && same; i++) {
                same = at(i) == other.at(i);
            }
            return same;
        }
    }

    /** A stack of numbers that never outgrows its room; an empty one answers NONE. */
    private static final class IntStack {
        private final int[] items;
        private int count;

        IntStack(int room) {
            items = new int[Math.max(room, 0)];
        }

        int size() {
            return count;
        }

        void clear() {
            count = 0;
        }

        void push(int item) {
            if (count < items.length) {
                items[count] = item;
                count++;
            }
        }

        int top() {
            return count > 0 ? items[count - 1] : NONE;
        }

        int pop() {
            if (count == 0) {
                return NONE;
            }
            count--;
            return items[count];
        }
    }

    /** The tokens of a text. What starts no token, or is too long a number, is a NO_TOKEN. */
    private static final class Tokens {
        private final int[] kinds = new int[MAX_TEXT];
        private final int[] starts = new int[MAX_TEXT];
        // A number's value or a variable's letter.
        private final int[] details = new int[MAX_TEXT];
        private int count;

        void read(CharRow text) {
            count = 0;
            int next = 0;
            for (int at = 0; at < text.size(); at++) {
                if (at >= next && text.at(at) != ' ') {
                    next = at + readToken(text, at);
                }
            }
        }

        int size() {
            return count;
        }

        int kindOf(int token) {
            return token >= 0 && token < count ? kinds[token] : NO_TOKEN;
        }

        int startOf(int token) {
            return token >= 0 && token < count ? starts[token] : NONE;
        }

        int detailOf(int token) {
            return token >= 0 && token < count ? details[token] : 0;
        }

        /** Returns how many characters the token takes. */
        private int readToken(CharRow text, int at) {
            int first = text.at(at);
            if (first >= '0' && first <= '9') {
                return readNumber(text, at);
            }
            if (first >= 'a' && first <= 'z') {
                int function = functionAt(text, at);
                if (function == NO_TOKEN) {
                    return add(VARIABLE, at, first - 'a', 1);
                }
                return add(function, at, 0, symbolOf(function).length());
            }
            int pair = kindOfPair(first, text.at(at + 1));
            if (pair != NO_TOKEN) {
                return add(pair, at, 0, 2);
            }
            return add(kindOfSign(first), at, 0, 1);
        }

        private int readNumber(CharRow text, int at) {
            int number = 0;
            int width = 0;
            for (int i = at; i < text.size() && text.at(i) >= '0' && text.at(i) <= '9'; i++) {
                width++;
                if (width <= MAX_DIGITS) {
                    number = 10 * number + text.at(i) - '0';
                }
            }
            return add(width <= MAX_DIGITS ? NUMBER : NO_TOKEN, at, number, width);
        }

        private int add(int kind, int start, int detail, int width) {
            if (count < MAX_TEXT) {
                kinds[count] = kind;
                starts[count] = start;
                details[count] = detail;
                count++;
            }
            return width;
        }

        private static int functionAt(CharRow text, int at) {
            for (int function = ABS; function <= DBL; function++) {
                String name = symbolOf(function);
                boolean matches = true;
                for (int i = 0; i < name.length(); i++) {
                    matches = matches && text.at(at + i) == name.charAt(i);
                }
                if (matches) {
                    return function;
                }
            }
            return NO_TOKEN;
        }

        private static int kindOfPair(int first, int second) {
            if (first == '.' && second == '.') {
                return DOTS;
            }
            if (second != '=') {
                return NO_TOKEN;
            }
            switch (first) {
                case '<': return UPTO;
                case '>': return DOWNTO;
                case '!': return UNLIKE;
                default: return NO_TOKEN;
            }
        }

        private static int kindOfSign(int sign) {
            switch (sign) {
                case '\'': return PRIME;
                case '+': return PLUS;
                case '-': return MINUS;
                case '*': return TIMES;
                case '/': return OVER;
                case '^': return POWER;
                case '(': return OPEN;
                case ')': return CLOSE;
                case '=': return EQUALS;
                case '<': return BELOW;
                case '>': return ABOVE;
                case ':': return WITHIN;
                default: return NO_TOKEN;
            }
        }
    }

    /**
     * Checks tokens against the grammar. A count of open brackets is all that has to be remembered
     * beside what is due next, so it needs no recursion and takes any depth of brackets.
     */
    private static final class Syntax {
        private static final int SUM_DUE = 0;
        private static final int POWER_DUE = 1;
        private static final int ARGUMENT_DUE = 2;
        private static final int AFTER_POWER = 3;

        private int state;
        private int depth;
        private int links;
        private int primes;
        private boolean dotsDue;

        /** Returns the first token that cannot follow, the number of tokens if more are due, or NONE. */
        int firstFault(Tokens tokens) {
            state = SUM_DUE;
            depth = 0;
            links = 0;
            dotsDue = false;
            for (int i = 0; i < tokens.size(); i++) {
                if (!takes(tokens.kindOf(i))) {
                    return i;
                }
            }
            return state == AFTER_POWER && depth == 0 && !dotsDue ? NONE : tokens.size();
        }

        private boolean takes(int kind) {
            if (state != AFTER_POWER || startsPower(kind) && kind != NUMBER) {
                return takesPower(kind);
            }
            return takesWhatFollows(kind);
        }

        private boolean takesPower(int kind) {
            if (kind == NUMBER || kind == VARIABLE) {
                state = AFTER_POWER;
                return true;
            }
            if (kind == OPEN) {
                depth++;
                state = SUM_DUE;
                return true;
            }
            if (isFunction(kind)) {
                primes = 0;
                state = ARGUMENT_DUE;
                return true;
            }
            if (kind == PRIME && state == ARGUMENT_DUE && primes < MAX_PRIMES) {
                primes++;
                return true;
            }
            if (kind == MINUS && state == SUM_DUE) {
                state = POWER_DUE;
                return true;
            }
            return false;
        }

        private boolean takesWhatFollows(int kind) {
            if (isOperator(kind)) {
                state = POWER_DUE;
                return true;
            }
            if (depth > 0) {
                depth--;
                return kind == CLOSE;
            }
            state = SUM_DUE;
            if (dotsDue) {
                dotsDue = false;
                return kind == DOTS;
            }
            links++;
            dotsDue = kind == WITHIN;
            return startsLink(kind) && links <= MAX_LINKS;
        }
    }

    /**
     * The trees of all sums of a formula under one reading. The operands of a node stand before it,
     * the left one's nodes before the right one's: in the order in which they are evaluated.
     */
    private static final class Tree {
        private final int[] kinds = new int[MAX_NODES];
        // A number's value, a variable's letter or how many primes a function has.
        private final int[] details = new int[MAX_NODES];
        private final int[] lefts = new int[MAX_NODES];
        private final int[] rights = new int[MAX_NODES];
        // Of use to greatestHeight alone: a row made once instead of at each call.
        private final int[] heights = new int[MAX_NODES];
        private int count;

        private final int[] roots = new int[MAX_SUMS];
        // The kind of the token before each sum: a relation, ":" or "..".
        private final int[] joints = new int[MAX_SUMS];
        private int sums;

        void clear() {
            count = 0;
            sums = 0;
        }

        int addNode(int kind, int detail, int left, int right) {
            if (count >= MAX_NODES) {
                return NONE;
            }
            kinds[count] = kind;
            details[count] = detail;
            lefts[count] = left;
            rights[count] = right;
            count++;
            return count - 1;
        }

        void addSum(int joint, int root) {
            if (sums < MAX_SUMS) {
                joints[sums] = joint;
                roots[sums] = root;
                sums++;
            }
        }

        int size() {
            return count;
        }

        int kindOf(int node) {
            return hasNode(node) ? kinds[node] : NO_TOKEN;
        }

        int detailOf(int node) {
            return hasNode(node) ? details[node] : 0;
        }

        int leftOf(int node) {
            return hasNode(node) ? lefts[node] : NONE;
        }

        int rightOf(int node) {
            return hasNode(node) ? rights[node] : NONE;
        }

        int sumCount() {
            return sums;
        }

        int rootOf(int sum) {
            return sum >= 0 && sum < sums ? roots[sum] : NONE;
        }

        int jointOf(int sum) {
            return sum >= 0 && sum < sums ? joints[sum] : NO_TOKEN;
        }

        int linkCount() {
            int links = 0;
            for (int sum = 0; sum < sums; sum++) {
                links += startsLink(jointOf(sum)) ? 1 : 0;
            }
            return links;
        }

        /** Returns the first sum of a link's own, or NONE if there is no such link. */
        int sumOfLink(int link) {
            int links = 0;
            for (int sum = 0; sum < sums; sum++) {
                if (startsLink(jointOf(sum))) {
                    if (links == link) {
                        return sum;
                    }
                    links++;
                }
            }
            return NONE;
        }

        int countVariable(int letter) {
            int found = 0;
            for (int node = 0; node < count; node++) {
                found += kindOf(node) == VARIABLE && detailOf(node) == letter ? 1 : 0;
            }
            return found;
        }

        int greatestHeight() {
            int greatest = 0;
            for (int node = 0; node < count; node++) {
                heights[node] = 1 + Math.max(heightOf(lefts[node]), heightOf(rights[node]));
                greatest = Math.max(greatest, heights[node]);
            }
            return greatest;
        }

        private int heightOf(int node) {
            return hasNode(node) ? heights[node] : 0;
        }

        private boolean hasNode(int node) {
            return node >= 0 && node < count;
        }
    }

    /**
     * Builds the trees of a formula under one reading, from tokens that are known to be a formula.
     * An operator waits on a stack until one comes that binds no tighter; the readings differ only
     * in how tightly * and / and the functions bind while they wait.
     */
    private static final class Builder {
        private static final int SUM_LEVEL = 1;
        private static final int NEGATION_LEVEL = 2;
        private static final int TERM_LEVEL = 3;
        private static final int PRODUCT_LEVEL = 4;
        private static final int POWER_LEVEL = 5;

        final Tree tree = new Tree();
        private final boolean tight;
        private final boolean wide;
        private final IntStack operands = new IntStack(MAX_NODES);
        private final IntStack operators = new IntStack(MAX_NODES);
        // As many as operators: how many primes each has.
        private final IntStack primes = new IntStack(MAX_NODES);
        private boolean afterOperand;
        private int joint;

        Builder(boolean tight, boolean wide) {
            this.tight = tight;
            this.wide = wide;
        }

        void build(Tokens tokens) {
            tree.clear();
            operands.clear();
            operators.clear();
            primes.clear();
            afterOperand = false;
            joint = NO_TOKEN;
            for (int i = 0; i < tokens.size(); i++) {
                take(tokens.kindOf(i), tokens.detailOf(i));
            }
            applyDownTo(SUM_LEVEL);
            endSum(NO_TOKEN);
        }

        private void take(int kind, int detail) {
            if (afterOperand && startsPower(kind)) {
                applyDownTo(PRODUCT_LEVEL);
                putOperator(JUXTAPOSITION);
            }
            if (kind == NUMBER || kind == VARIABLE) {
                operands.push(tree.addNode(kind, detail, NONE, NONE));
            } else if (isFunction(kind) || kind == OPEN) {
                putOperator(kind);
            } else if (kind == PRIME) {
                primes.push(primes.pop() + 1);
            } else if (kind == MINUS && !afterOperand) {
                putOperator(NEGATION);
            } else if (isOperator(kind)) {
                applyDownTo(comingLevel(kind));
                putOperator(kind);
            } else if (kind == CLOSE) {
                applyDownTo(SUM_LEVEL);
                operators.pop();
                primes.pop();
            } else if (startsSum(kind)) {
                applyDownTo(SUM_LEVEL);
                endSum(kind);
            }
            afterOperand = kind == NUMBER || kind == VARIABLE || kind == CLOSE;
        }

        private void putOperator(int kind) {
            operators.push(kind);
            primes.push(0);
        }

        private void endSum(int nextJoint) {
            tree.addSum(joint, operands.pop());
            joint = nextJoint;
        }

        private void applyDownTo(int level) {
            for (int waiting = operators.size(); waiting > 0; waiting--) {
                if (waitingLevel(operators.top()) < level) {
                    return;
                }
                applyTop();
            }
        }

        private void applyTop() {
            int kind = operators.pop();
            int detail = primes.pop();
            int right = isBinary(kind) ? operands.pop() : NONE;
            int left = operands.pop();
            operands.push(tree.addNode(kind, detail, left, right));
        }

        private static int comingLevel(int kind) {
            switch (kind) {
                case PLUS:
                case MINUS:
                    return SUM_LEVEL;
                case TIMES:
                case OVER:
                    return TERM_LEVEL;
                default:
                    // Above the level of a ^ that waits: ^ takes its right operand first.
                    return POWER_LEVEL + 1;
            }
        }

        private int waitingLevel(int kind) {
            switch (kind) {
                case ABS:
                case SGN:
                case SQR:
                case DBL:
                    // A juxtaposition continues a wide argument, and ends a narrow one.
                    return wide ? TERM_LEVEL : PRODUCT_LEVEL;
                case PLUS:
                case MINUS:
                    return SUM_LEVEL;
                case NEGATION:
                    return NEGATION_LEVEL;
                case TIMES:
                case OVER:
                    // A loose juxtaposition has their precedence: it ends their right operand.
                    return tight ? TERM_LEVEL : PRODUCT_LEVEL;
                case JUXTAPOSITION:
                    return PRODUCT_LEVEL;
                case POWER:
                    return POWER_LEVEL;
                default:
                    // An open bracket, which only its closing one takes away.
                    return 0;
            }
        }
    }

    /** The accepted formula under one reading, with its texts and its last outcome. */
    private static final class Reading {
        final Builder builder;
        final Tree tree;
        final CharRow printed = new CharRow(MAX_PRINTED);
        final CharRow spoken = new CharRow(MAX_SPOKEN);
        int status;
        long result;

        Reading(boolean tight, boolean wide) {
            builder = new Builder(tight, wide);
            tree = builder.tree;
        }

        void judge(Evaluator evaluator, int[] variables) {
            status = evaluator.evaluate(tree, variables);
            result = status == SUCCESS ? evaluator.outcomeOf(tree) : 0;
        }

        /** All failures with one status are one outcome; their result is always 0. */
        boolean hasOutcomeOf(Reading other) {
            return status == other.status && result == other.result;
        }
    }

    /** Evaluates trees. An operation that fails says so in the status; its result is then free. */
    private static final class Evaluator {
        private static final long LEAST = -9223372036854775808L;
        // A base other than 0, 1 and -1 overflows with this many factors, if not before.
        private static final int MAX_FACTORS = 64;

        private final long[] values = new long[MAX_NODES];
        private final long[] differences = new long[MAX_PRIMES + 1];
        private int status;

        int evaluate(Tree tree, int[] variables) {
            status = SUCCESS;
            int nodes = Math.min(tree.size(), values.length);
            for (int node = 0; node < nodes && status == SUCCESS; node++) {
                values[node] = valueOfNode(tree, node, variables);
            }
            return status;
        }

        /** Needs an evaluation of the same tree that succeeded. */
        long outcomeOf(Tree tree) {
            if (tree.linkCount() == 0) {
                return valueAt(tree.rootOf(0));
            }
            boolean allHold = true;
            for (int sum = 1; sum < tree.sumCount(); sum++) {
                allHold = allHold && (!startsLink(tree.jointOf(sum)) || holds(tree, sum));
            }
            return allHold ? 1 : 0;
        }

        /** Tells whether the link holds whose first own sum this is; needs what outcomeOf needs. */
        boolean holds(Tree tree, int sum) {
            long before = valueAt(tree.rootOf(sum - 1));
            long own = valueAt(tree.rootOf(sum));
            switch (tree.jointOf(sum)) {
                case EQUALS: return before == own;
                case BELOW: return before < own;
                case ABOVE: return before > own;
                case UPTO: return before <= own;
                case DOWNTO: return before >= own;
                case UNLIKE: return before != own;
                default: return own <= before && before <= valueAt(tree.rootOf(sum + 1));
            }
        }

        private long valueAt(int node) {
            return node >= 0 && node < values.length ? values[node] : 0;
        }

        private long valueOfNode(Tree tree, int node, int[] variables) {
            int kind = tree.kindOf(node);
            int detail = tree.detailOf(node);
            long left = valueAt(tree.leftOf(node));
            long right = valueAt(tree.rightOf(node));
            switch (kind) {
                case NUMBER:
                    return detail;
                case VARIABLE:
                    return detail >= 0 && detail < variables.length ? variables[detail] : 0;
                case PLUS:
                    return add(left, right);
                case MINUS:
                    return subtract(left, right);
                case TIMES:
                case JUXTAPOSITION:
                    return multiply(left, right);
                case OVER:
                    return divide(left, right);
                case POWER:
                    return raise(left, right);
                case NEGATION:
                    return subtract(0, left);
                default:
                    return applyPrimed(kind, detail, left);
            }
        }

        private long add(long a, long b) {
            long sum = a + b;
            if (((a ^ sum) & (b ^ sum)) < 0) {
                status = OVERFLOW;
            }
            return sum;
        }

        private long subtract(long a, long b) {
            long difference = a - b;
            if (((a ^ b) & (a ^ difference)) < 0) {
                status = OVERFLOW;
            }
            return difference;
        }

        private long multiply(long a, long b) {
            long product = a * b;
            // Dividing the product by -1 would not show the overflow of -1 * LEAST.
            boolean fits = a == 0 || (a == -1 ? b != LEAST : product / a == b);
            if (!fits) {
                status = OVERFLOW;
            }
            return product;
        }

        private long divide(long a, long b) {
            if (b == 0) {
                status = DIVISION_BY_ZERO;
                return 0;
            }
            if (a == LEAST && b == -1) {
                status = OVERFLOW;
                return 0;
            }
            return a / b;
        }

        private long raise(long base, long exponent) {
            if (exponent < 0) {
                status = DOMAIN_ERROR;
                return 0;
            }
            if (exponent == 0 || base == 1) {
                return 1;
            }
            if (base == 0) {
                return 0;
            }
            if (base == -1) {
                return (exponent & 1) == 0 ? 1 : -1;
            }
            long power = 1;
            long factors = Math.min(exponent, MAX_FACTORS);
            for (long factor = 0; factor < factors && status == SUCCESS; factor++) {
                power = multiply(power, base);
            }
            return power;
        }

        /**
         * The forward differences as a table: f at x + primes down to x, then each row from the one
         * before. The order is free, since all that can fail here is an overflow.
         */
        private long applyPrimed(int function, int primes, long x) {
            int last = Math.max(0, Math.min(primes, MAX_PRIMES));
            for (int i = last; i >= 0; i--) {
                differences[i] = apply(function, add(x, i));
            }
            for (int row = 1; row <= last; row++) {
                for (int i = 0; i + row <= last; i++) {
                    differences[i] = subtract(differences[i + 1], differences[i]);
                }
            }
            return differences[0];
        }

        private long apply(int function, long x) {
            switch (function) {
                case ABS:
                    return x < 0 ? subtract(0, x) : x;
                case SGN:
                    return x < 0 ? -1 : x > 0 ? 1 : 0;
                case SQR:
                    return multiply(x, x);
                default:
                    return add(x, x);
            }
        }
    }

    /** Writes trees out, from left to right; how is left to the two kinds of writers. */
    private abstract static class Writer {
        private static final int VISIT = 0;
        private static final int MIDDLE = 1;
        private static final int END = 2;
        private static final int STEPS = 3;
        private static final int MAX_STEPS = STEPS * MAX_NODES;
        // The unit of the first digit of a number with MAX_DIGITS digits.
        private static final int GREATEST_UNIT = 100000;

        // What is still to do: a node times STEPS, plus the step.
        private final IntStack work = new IntStack(MAX_STEPS);

        void write(Tree tree, CharRow row) {
            row.clear();
            for (int sum = 0; sum < tree.sumCount(); sum++) {
                if (sum > 0) {
                    writeBetween(tree.jointOf(sum), row);
                }
                writeSum(tree, tree.rootOf(sum), row);
            }
        }

        abstract void writeStart(Tree tree, int node, boolean isRoot, CharRow row);

        abstract void writeBetween(int kind, CharRow row);

        abstract void writeEnd(Tree tree, int node, boolean isRoot, CharRow row);

        private void writeSum(Tree tree, int root, CharRow row) {
            work.clear();
            work.push(root * STEPS + VISIT);
            for (int i = 0; i < MAX_STEPS && work.size() > 0; i++) {
                int item = work.pop();
                int node = item / STEPS;
                int step = item % STEPS;
                if (step == VISIT) {
                    writeStart(tree, node, node == root, row);
                    planOperands(tree, node);
                } else if (step == MIDDLE) {
                    writeBetween(tree.kindOf(node), row);
                } else {
                    writeEnd(tree, node, node == root, row);
                }
            }
        }

        /** Plans the last step first, since the stack gives back first what came last. */
        private void planOperands(Tree tree, int node) {
            int left = tree.leftOf(node);
            int right = tree.rightOf(node);
            if (left == NONE) {
                return;
            }
            work.push(node * STEPS + END);
            if (right != NONE) {
                work.push(right * STEPS + VISIT);
                work.push(node * STEPS + MIDDLE);
            }
            work.push(left * STEPS + VISIT);
        }

        static void writeLeaf(int kind, int detail, CharRow row) {
            if (kind == VARIABLE) {
                row.put('a' + detail);
                return;
            }
            for (int unit = GREATEST_UNIT; unit >= 1; unit /= 10) {
                if (detail >= unit || unit == 1) {
                    row.put('0' + detail / unit % 10);
                }
            }
        }
    }

    /** Writes the printed form. */
    private static final class Printer extends Writer {
        void writeStart(Tree tree, int node, boolean isRoot, CharRow row) {
            int kind = tree.kindOf(node);
            int detail = tree.detailOf(node);
            if (kind == NEGATION) {
                row.putWord("(-");
            } else if (isBinary(kind)) {
                row.put('(');
            } else if (isFunction(kind)) {
                row.putWord(symbolOf(kind));
                for (int prime = 0; prime < detail; prime++) {
                    row.put('\'');
                }
                row.put('(');
            } else {
                writeLeaf(kind, detail, row);
            }
        }

        void writeBetween(int kind, CharRow row) {
            row.putWord(symbolOf(kind));
        }

        void writeEnd(Tree tree, int node, boolean isRoot, CharRow row) {
            row.put(')');
        }
    }

    /** Writes the speech text. */
    private static final class Speaker extends Writer {
        void writeStart(Tree tree, int node, boolean isRoot, CharRow row) {
            int kind = tree.kindOf(node);
            int detail = tree.detailOf(node);
            if (isBinaryOrNegation(kind)) {
                row.putWord(isRoot ? "" : "open ");
                row.putWord(kind == NEGATION ? "minus " : "");
            } else if (isFunction(kind)) {
                row.putWord(symbolOf(kind));
                for (int prime = 0; prime < detail; prime++) {
                    row.putWord(" prime");
                }
                row.putWord(" of ");
            } else {
                writeLeaf(kind, detail, row);
            }
        }

        void writeBetween(int kind, CharRow row) {
            row.put(' ');
            row.putWord(wordOf(kind));
            row.put(' ');
        }

        void writeEnd(Tree tree, int node, boolean isRoot, CharRow row) {
            if (!isRoot && isBinaryOrNegation(tree.kindOf(node))) {
                row.putWord(" close");
            }
        }
    }
}
