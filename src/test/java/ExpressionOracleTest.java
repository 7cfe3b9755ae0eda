import java.util.ArrayList;
import java.util.HashSet;
import java.util.List;
import java.util.Random;
import java.util.Set;
import java.util.regex.Matcher;
import java.util.regex.Pattern;

/**
 * compile() against a second reading of term 5: the first wrong byte is found by following all
 * derivations of the grammar at once, and the code is made by the document's words, recursively.
 */
public final class ExpressionOracleTest {
    private static final Bench BENCH = new Bench("ExpressionOracleTest");
    private static final String SIGNS = "0123456789abcdeflnotrx()[]:=!<>+-*/%&|^  ,;M#\n";
    private static final String[] PIECES = {"and", "or", "not", "len", "<<", ">>", "<=", ">=", "!=", "(", ")", "[", "]", ":2",
        "0x", "4294967295", " ", "=", "<", ">", "1", "and ", "or ", "not "};

    public static void main(String[] args) {
        Random random = new Random(20261116);
        int right = 0;
        for (int n = 0; n < 12000; n++) {
            String text = expression(random, n % 5);
            if (text.length() <= 400) {
                right += compare(text);
                compare(changed(random, text));
                compare(text.substring(0, random.nextInt(text.length() + 1)));
            }
        }
        for (int n = 0; n < 6000; n++) {
            StringBuilder text = new StringBuilder();
            for (int piece = random.nextInt(14); piece >= 0; piece--) {
                text.append(PIECES[random.nextInt(PIECES.length)]);
            }
            compare(text.toString());
        }
        BENCH.due("enough right ones: " + right, right > 6000, true);
        BENCH.finish();
    }

    private static int compare(String text) {
        BerkeleySieve x = new BerkeleySieve();
        int count = Bench.compile(x, text);
        int place = new Grammar(text).place();
        if (place >= 0) {
            BENCH.due("compile() of " + text, count, -1);
            BENCH.due("fault of " + text, Bench.fault(x), "7@" + place);
            return 0;
        }
        String code = new Code(text).numbers();
        BENCH.due("fault of " + text, Bench.fault(x), code == null ? "8@-1" : "0@-1");
        if (code != null) {
            BENCH.due("program of " + text, Bench.numbers(() -> Bench.compiled(text)), code);
            BENCH.due("why() of " + text, x.why(), 0);
        }
        return 1;
    }

    private static String changed(Random random, String text) {
        StringBuilder other = new StringBuilder(text);
        int at = random.nextInt(text.length() + 1);
        String sign = random.nextBoolean()
                ? String.valueOf(SIGNS.charAt(random.nextInt(SIGNS.length()))) : PIECES[random.nextInt(PIECES.length)];
        if (random.nextBoolean() && at < text.length()) {
            other.deleteCharAt(at);
        }
        if (random.nextInt(3) > 0) {
            other.insert(at, sign);
        }
        return other.length() > 400 ? other.substring(0, 400) : other.toString();
    }

    private static String expression(Random random, int size) {
        return answers(random, size, 0);
    }

    private static String blank(Random random) {
        return random.nextInt(4) == 0 ? " ".repeat(1 + random.nextInt(2)) : "";
    }

    private static String answers(Random random, int size, int depth) {
        int kind = depth >= size + 1 ? 0 : random.nextInt(7);
        switch (kind) {
            case 1:
                return answers(random, size, depth + 1) + " and " + answers(random, size, depth + 1);
            case 2:
                return answers(random, size, depth + 1) + " or " + answers(random, size, depth + 1);
            case 3:
                return "not " + answers(random, size, depth + 1);
            case 4:
            case 5:
                return "(" + blank(random) + answers(random, size, depth + 1) + blank(random) + ")";
            default:
                String[] relations = {"=", "!=", "<", ">", "<=", ">="};
                return sum(random, size, depth) + blank(random) + relations[random.nextInt(6)] + blank(random)
                        + sum(random, size, depth);
        }
    }

    private static String sum(Random random, int size, int depth) {
        int kind = depth >= size + 2 ? random.nextInt(2) : random.nextInt(8);
        switch (kind) {
            case 0:
                return "len";
            case 2:
            case 3:
                String[] operations = {"+", "-", "*", "/", "%", "&", "|", "^", "<<", ">>"};
                return sum(random, size, depth + 1) + blank(random) + operations[random.nextInt(10)] + blank(random)
                        + sum(random, size, depth + 1);
            case 4:
                return "(" + sum(random, size, depth + 1) + blank(random) + ")";
            case 5:
                return "[" + sum(random, size, depth + 1) + "]";
            case 6:
                return "[" + sum(random, size, depth + 1) + blank(random) + ":" + (1 << random.nextInt(3)) + "]";
            default:
                String[] numbers = {"0", "1", "31", "32", "0xff", "007", "4294967295", "0x0"};
                return numbers[random.nextInt(numbers.length)];
        }
    }

    private enum Kind { SIGN, BLANKS, EDGE, OR, ORS, ANDS, AND, NOT, TEST, SUM, SUMS, PROD, PRODS, UNIT, SIZE, NUMBER, DECIMAL,
        ZERO, HEX }

    private record Symbol(Kind kind, long value) { }

    private record Stack(Symbol top, Stack rest) { }

    /** All derivations of the grammar at once, a byte at a time. */
    private static final class Grammar {
        private final String text;

        Grammar(String text) {
            this.text = text;
        }

        /** The first byte with which nothing goes on, or the length; -1 if the text is right. */
        int place() {
            Set<Stack> all = new HashSet<>();
            all.add(new Stack(new Symbol(Kind.BLANKS, 0), new Stack(new Symbol(Kind.OR, 0), null)));
            for (int i = 0; i < text.length(); i++) {
                Set<Stack> next = new HashSet<>();
                for (Stack stack : all) {
                    go(stack, text.charAt(i), next);
                }
                if (next.isEmpty()) {
                    return i;
                }
                all = next;
            }
            // One more sign shows which could end here: those that have nothing left to wait for.
            Set<Stack> ended = new HashSet<>();
            Stack end = new Stack(new Symbol(Kind.SIGN, '$'), null);
            for (Stack stack : all) {
                go(joined(stack, end), '$', ended);
            }
            return ended.isEmpty() ? text.length() : -1;
        }

        private static Stack joined(Stack stack, Stack end) {
            return stack == null ? end : new Stack(stack.top(), joined(stack.rest(), end));
        }

        private static boolean isDigit(int sign) {
            return sign >= '0' && sign <= '9';
        }

        private static int hex(int sign) {
            return sign < 128 && "0123456789abcdef".indexOf(sign) >= 0 ? Character.digit(sign, 16) : -1;
        }

        /** Adds what is left of the stack when the sign has been read. */
        private void go(Stack stack, int sign, Set<Stack> next) {
            if (stack == null) {
                return;
            }
            Stack rest = stack.rest();
            long d = stack.top().value();
            switch (stack.top().kind()) {
                case SIGN -> {
                    if (d == sign) {
                        next.add(rest == null ? new Stack(new Symbol(Kind.BLANKS, 0), null) : rest);
                    }
                }
                case BLANKS -> {
                    if (sign == ' ') {
                        next.add(stack);
                    }
                    go(rest, sign, next);
                }
                case EDGE -> {
                    if (!isDigit(sign) && !(sign >= 'a' && sign <= 'z')) {
                        go(rest, sign, next);
                    }
                }
                case OR -> go(push(rest, Kind.AND, d, Kind.ORS, d), sign, next);
                case ORS -> {
                    go(rest, sign, next);
                    go(word("or", push(rest, Kind.AND, d, Kind.ORS, d)), sign, next);
                }
                case AND -> go(push(rest, Kind.NOT, d, Kind.ANDS, d), sign, next);
                case ANDS -> {
                    go(rest, sign, next);
                    go(word("and", push(rest, Kind.NOT, d, Kind.ANDS, d)), sign, next);
                }
                case NOT -> {
                    go(word("not", new Stack(stack.top(), rest)), sign, next);
                    go(new Stack(new Symbol(Kind.TEST, d), rest), sign, next);
                    if (d < 20) {
                        go(sign("(", new Stack(new Symbol(Kind.OR, d + 1), sign(")", rest))), sign, next);
                    }
                }
                case TEST -> {
                    for (String relation : new String[] {"=", "!=", ">", "<", ">=", "<="}) {
                        Stack behind = sign(relation, new Stack(new Symbol(Kind.SUM, d), rest));
                        go(new Stack(new Symbol(Kind.SUM, d), behind), sign, next);
                    }
                }
                case SUM -> go(push(rest, Kind.PROD, d, Kind.SUMS, d), sign, next);
                case SUMS -> {
                    go(rest, sign, next);
                    for (String operation : new String[] {"+", "-"}) {
                        go(sign(operation, push(rest, Kind.PROD, d, Kind.SUMS, d)), sign, next);
                    }
                }
                case PROD -> go(push(rest, Kind.UNIT, d, Kind.PRODS, d), sign, next);
                case PRODS -> {
                    go(rest, sign, next);
                    for (String operation : new String[] {"*", "/", "%", "&", "|", "^", "<<", ">>"}) {
                        go(sign(operation, push(rest, Kind.UNIT, d, Kind.PRODS, d)), sign, next);
                    }
                }
                case UNIT -> unit(d, rest, sign, next);
                case SIZE -> {
                    if (sign == '1' || sign == '2' || sign == '4') {
                        next.add(blanks(rest));
                    }
                }
                default -> number(stack, sign, next);
            }
        }

        private void unit(long d, Stack rest, int sign, Set<Stack> next) {
            go(new Stack(new Symbol(Kind.NUMBER, 0), blanks(rest)), sign, next);
            go(word("len", rest), sign, next);
            if (d < 20) {
                go(sign("(", new Stack(new Symbol(Kind.SUM, d + 1), sign(")", rest))), sign, next);
                go(sign("[", new Stack(new Symbol(Kind.SUM, d + 1), sign("]", rest))), sign, next);
                Stack size = sign(":", new Stack(new Symbol(Kind.SIZE, 0), sign("]", rest)));
                go(sign("[", new Stack(new Symbol(Kind.SUM, d + 1), size)), sign, next);
            }
        }

        private void number(Stack stack, int sign, Set<Stack> next) {
            Stack rest = stack.rest();
            long value = stack.top().value();
            switch (stack.top().kind()) {
                case NUMBER -> {
                    if (isDigit(sign)) {
                        next.add(new Stack(new Symbol(sign == '0' ? Kind.ZERO : Kind.DECIMAL, sign - '0'), rest));
                    }
                }
                case ZERO, DECIMAL -> {
                    if (sign == 'x' && stack.top().kind() == Kind.ZERO) {
                        next.add(new Stack(new Symbol(Kind.HEX, 0), rest));
                    } else if (!isDigit(sign)) {
                        go(rest, sign, next);
                    } else if (value * 10 + sign - '0' <= 4294967295L) {
                        next.add(new Stack(new Symbol(Kind.DECIMAL, value * 10 + sign - '0'), rest));
                    }
                }
                default -> {
                    if (hex(sign) < 0 && value > 0) {
                        go(rest, sign, next);
                    } else if (hex(sign) >= 0 && value < 8) {
                        next.add(new Stack(new Symbol(Kind.HEX, value + 1), rest));
                    }
                }
            }
        }

        private static Stack push(Stack rest, Kind first, long d, Kind second, long e) {
            return new Stack(new Symbol(first, d), new Stack(new Symbol(second, e), rest));
        }

        private static Stack blanks(Stack rest) {
            return new Stack(new Symbol(Kind.BLANKS, 0), rest);
        }

        private static Stack sign(String signs, Stack rest) {
            Stack all = blanks(rest);
            for (int i = signs.length() - 1; i >= 0; i--) {
                all = new Stack(new Symbol(Kind.SIGN, signs.charAt(i)), all);
            }
            return all;
        }

        private static Stack word(String word, Stack rest) {
            Stack all = new Stack(new Symbol(Kind.EDGE, 0), blanks(rest));
            for (int i = word.length() - 1; i >= 0; i--) {
                all = new Stack(new Symbol(Kind.SIGN, word.charAt(i)), all);
            }
            return all;
        }
    }

    private static final class Label {
        int place;
    }

    private record Step(int code, long k, Label yes, Label no) { }

    /** A part of an expression: a number, "len", "[" with its bytes as k, an operation, a test .. */
    private record Part(String kind, long k, Part left, Part right) { }

    /** The code of a right expression, as the document tells it. */
    private static final class Code {
        private static final Pattern TOKEN =
                Pattern.compile("0x[0-9a-f]+|[0-9]+|[a-z][a-z0-9]*|<<|>>|<=|>=|!=|[^ ]");
        private static final List<String> OPERATIONS = List.of("+", "-", "*", "/", "|", "&", "<<", ">>", "", "%", "^");

        private final List<String> tokens = new ArrayList<>();
        private int at = 0;
        private boolean impossible = false;

        Code(String text) {
            Matcher matcher = TOKEN.matcher(text);
            while (matcher.find()) {
                tokens.add(matcher.group());
            }
        }

        private String peek() {
            return at < tokens.size() ? tokens.get(at) : "";
        }

        private boolean take(String token) {
            if (!peek().equals(token)) {
                return false;
            }
            at++;
            return true;
        }

        private Part or() {
            Part part = and();
            while (take("or")) {
                part = new Part("or", 0, part, and());
            }
            return part;
        }

        private Part and() {
            Part part = not();
            while (take("and")) {
                part = new Part("and", 0, part, not());
            }
            return part;
        }

        private Part not() {
            if (take("not")) {
                return new Part("not", 0, not(), null);
            }
            if (peek().equals("(") && holdsAnswer()) {
                at++;
                Part part = or();
                at++;
                return part;
            }
            Part first = sum();
            String relation = tokens.get(at++);
            return new Part(relation, 0, first, sum());
        }

        private boolean holdsAnswer() {
            int round = 0;
            int square = 0;
            for (int i = at; i < tokens.size(); i++) {
                String token = tokens.get(i);
                round += token.equals("(") ? 1 : token.equals(")") ? -1 : 0;
                square += token.equals("[") ? 1 : token.equals("]") ? -1 : 0;
                if (round == 0) {
                    return false;
                }
                if (square == 0 && List.of("=", "!=", "<", ">", "<=", ">=", "and", "or", "not").contains(token)) {
                    return true;
                }
            }
            return false;
        }

        private Part sum() {
            Part part = product();
            while (peek().equals("+") || peek().equals("-")) {
                String operation = tokens.get(at++);
                part = new Part(operation, 0, part, product());
            }
            return part;
        }

        private Part product() {
            Part part = unit();
            while (!peek().isEmpty() && !peek().equals("+") && !peek().equals("-") && OPERATIONS.contains(peek())) {
                String operation = tokens.get(at++);
                part = new Part(operation, 0, part, unit());
            }
            return part;
        }

        private Part unit() {
            String token = tokens.get(at++);
            if (token.equals("(")) {
                Part part = sum();
                at++;
                return part;
            }
            if (token.equals("[")) {
                Part part = sum();
                long bytes = take(":") ? Long.parseLong(tokens.get(at++)) : 1;
                at++;
                return new Part("[", bytes, part, null);
            }
            if (token.equals("len")) {
                return new Part("len", 0, null, null);
            }
            return new Part("number", Long.decode(token.startsWith("0x") ? token : token.replaceFirst("^0+(?=.)", "")), null, null);
        }

        private static boolean isNumber(Part part) {
            return part.kind().equals("number");
        }

        private void code(Part part, int d, List<Step> steps) {
            if (isNumber(part)) {
                steps.add(new Step(0, part.k(), null, null));
            } else if (part.kind().equals("len")) {
                steps.add(new Step(0x80, 0, null, null));
            } else if (part.kind().equals("[")) {
                int width = part.k() == 1 ? 0x10 : part.k() == 2 ? 8 : 0;
                if (isNumber(part.left())) {
                    steps.add(new Step(0x20 + width, part.left().k(), null, null));
                } else {
                    code(part.left(), d, steps);
                    steps.add(new Step(7, 0, null, null));
                    steps.add(new Step(0x40 + width, 0, null, null));
                }
            } else {
                operation(part, d, steps);
            }
        }

        private void operation(Part part, int d, List<Step> steps) {
            int code = 4 + 16 * OPERATIONS.indexOf(part.kind());
            boolean direct = isNumber(part.right());
            if (direct && (code == 0x34 || code == 0x94)) {
                direct = part.right().k() != 0;
            }
            if (direct && (code == 0x64 || code == 0x74)) {
                direct = part.right().k() <= 31;
            }
            if (direct) {
                code(part.left(), d, steps);
                steps.add(new Step(code, part.right().k(), null, null));
                return;
            }
            impossible |= d >= 16;
            code(part.right(), d, steps);
            steps.add(new Step(2, d, null, null));
            code(part.left(), d + 1, steps);
            steps.add(new Step(0x61, d, null, null));
            steps.add(new Step(code + 8, 0, null, null));
        }

        private void answer(Part part, Label yes, Label no, List<Step> steps) {
            Label between = new Label();
            switch (part.kind()) {
                case "not" -> answer(part.left(), no, yes, steps);
                case "and" -> {
                    answer(part.left(), between, no, steps);
                    between.place = steps.size();
                    answer(part.right(), yes, no, steps);
                }
                case "or" -> {
                    answer(part.left(), yes, between, steps);
                    between.place = steps.size();
                    answer(part.right(), yes, no, steps);
                }
                case "=" -> test(0x15, part, yes, no, steps);
                case "!=" -> test(0x15, part, no, yes, steps);
                case ">" -> test(0x25, part, yes, no, steps);
                case "<=" -> test(0x25, part, no, yes, steps);
                case ">=" -> test(0x35, part, yes, no, steps);
                default -> test(0x35, part, no, yes, steps);
            }
        }

        private void test(int jump, Part part, Label yes, Label no, List<Step> steps) {
            if (isNumber(part.right())) {
                code(part.left(), 0, steps);
                steps.add(new Step(jump, part.right().k(), yes, no));
                return;
            }
            code(part.right(), 0, steps);
            steps.add(new Step(2, 0, null, null));
            code(part.left(), 1, steps);
            steps.add(new Step(0x61, 0, null, null));
            steps.add(new Step(jump + 8, 0, yes, no));
        }

        /** Null if there can be no such program. */
        String numbers() {
            List<Step> steps = new ArrayList<>();
            Label yes = new Label();
            Label no = new Label();
            answer(or(), yes, no, steps);
            yes.place = steps.size();
            steps.add(new Step(6, 262144, null, null));
            no.place = steps.size();
            steps.add(new Step(6, 0, null, null));
            if (impossible || steps.size() > 200) {
                return null;
            }
            StringBuilder text = new StringBuilder();
            for (int i = 0; i < steps.size(); i++) {
                Step step = steps.get(i);
                text.append(i == 0 ? "" : "; ").append(Integer.toHexString(step.code()))
                        .append(' ').append(step.yes() == null ? 0 : step.yes().place - i - 1)
                        .append(' ').append(step.no() == null ? 0 : step.no().place - i - 1)
                        .append(' ').append(step.k());
            }
            return text.toString();
        }
    }
}
