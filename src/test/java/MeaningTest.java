import java.util.Arrays;
import java.util.Random;

/**
 * What expressions mean: their programs, as they are and made plainer, answer on random packets what the
 * expression itself does, worked out without any program.
 */
public final class MeaningTest {
    private static final Bench BENCH = new Bench("MeaningTest");
    private static final long WRAP = 0xffffffffL;
    private static final String[] OPERATIONS = {"+", "-", "*", "/", "%", "&", "|", "^", "<<", ">>"};
    private static final String[] RELATIONS = {"=", "!=", ">", "<", ">=", "<="};

    private final Random random;
    private final int[] bytes;

    private MeaningTest(Random random) {
        this.random = random;
        bytes = new int[random.nextInt(12)];
        for (int i = 0; i < bytes.length; i++) {
            bytes[i] = random.nextInt(random.nextBoolean() ? 256 : 8);
        }
    }

    /** A byte that isn't there, or a division by 0: the run ends. */
    private static final class Broken extends Exception {
        private static final long serialVersionUID = 1;
    }

    /** A number, with its text; its operation and parts if it has some. */
    private record Sum(String text, String kind, long number, Sum left, Sum right) { }

    /** What is answered with yes or no; a and b, a or b, not a have parts, the others sums. */
    private record Answer(String text, String kind, Answer a, Answer b, Sum first, Sum second) { }

    public static void main(String[] args) {
        Random random = new Random(512);
        int yes = 0;
        int no = 0;
        int broken = 0;
        for (int n = 0; n < 20000; n++) {
            int result = new MeaningTest(random).compare(n % 4);
            yes += result == 1 ? 1 : 0;
            no += result == 0 ? 1 : 0;
            broken += result == 2 ? 1 : 0;
        }
        BENCH.due("enough of each: " + yes + ", " + no + ", " + broken, yes > 3000 && no > 3000 && broken > 3000, true);
        BENCH.finish();
    }

    /** 1 for yes, 0 for no, 2 if the run broke off. */
    private int compare(int size) {
        BENCH.says("CODE of a SUM leaves its number in A");
        Answer answer = answer(size);
        BerkeleySieve x = new BerkeleySieve();
        Bench.packet(x, bytes);
        Bench.compile(x, answer.text());
        BENCH.due("fault of " + answer.text(), Bench.fault(x), "0@-1");
        int due = due(answer);
        String story = answer.text() + " on " + Arrays.toString(bytes);
        BENCH.due("run() of " + story, x.run(), due == 2 ? 0 : 1);
        BENCH.due("ran(0) of " + story, x.ran(0), due == 1 ? 262144 : 0);
        BENCH.due("plainer() of " + story, x.plainer() >= 0, true);
        BENCH.due("run() of the plainer one of " + story, x.run(), due == 2 ? 0 : 1);
        BENCH.due("ran(0) of the plainer one of " + story, x.ran(0), due == 1 ? 262144 : 0);
        return due;
    }

    private int due(Answer answer) {
        try {
            return holds(answer) ? 1 : 0;
        } catch (Broken broken) {
            return 2;
        }
    }

    private boolean holds(Answer answer) throws Broken {
        switch (answer.kind()) {
            case "not":
                return !holds(answer.a());
            case "and":
                return holds(answer.a()) && holds(answer.b());
            case "or":
                return holds(answer.a()) || holds(answer.b());
            default:
                break;
        }
        // The second sum is worked out first, but that can't be seen: either breaks the run off.
        long first = number(answer.first());
        long second = number(answer.second());
        return switch (answer.kind()) {
            case "=" -> first == second;
            case "!=" -> first != second;
            case ">" -> first > second;
            case "<" -> first < second;
            case ">=" -> first >= second;
            default -> first <= second;
        };
    }

    private long number(Sum sum) throws Broken {
        switch (sum.kind()) {
            case "number":
                return sum.number();
            case "len":
                return bytes.length;
            case "(":
                return number(sum.left());
            case "[":
                return bytesFrom(number(sum.left()), (int) sum.number());
            default:
                return calculated(sum.kind(), number(sum.left()), number(sum.right())) & WRAP;
        }
    }

    private long bytesFrom(long place, int count) throws Broken {
        if (place + count > bytes.length) {
            throw new Broken();
        }
        long value = 0;
        for (int i = 0; i < count; i++) {
            value = value * 256 + bytes[(int) place + i];
        }
        return value;
    }

    private static long calculated(String operation, long l, long r) throws Broken {
        if (r == 0 && (operation.equals("/") || operation.equals("%"))) {
            throw new Broken();
        }
        return switch (operation) {
            case "+" -> l + r;
            case "-" -> l - r;
            case "*" -> l * r;
            case "/" -> l / r;
            case "%" -> l % r;
            case "&" -> l & r;
            case "|" -> l | r;
            case "^" -> l ^ r;
            case "<<" -> r > 31 ? 0 : l << r;
            default -> r > 31 ? 0 : l >> r;
        };
    }

    /** An OR, whose parts are in brackets where they must be. */
    private Answer answer(int size) {
        int kind = size <= 0 ? 0 : random.nextInt(5);
        if (kind == 1 || kind == 2) {
            String word = kind == 1 ? "and" : "or";
            Answer a = part(size - 1, word, false);
            Answer b = part(size - 1, word, true);
            return new Answer(a.text() + " " + word + " " + b.text(), word, a, b, null, null);
        }
        if (kind == 3) {
            Answer a = answer(size - 1);
            boolean bare = !a.kind().equals("and") && !a.kind().equals("or") && random.nextBoolean();
            return new Answer(bare ? "not " + a.text() : "not (" + a.text() + ")", "not", a, null, null, null);
        }
        String relation = RELATIONS[random.nextInt(RELATIONS.length)];
        Sum first = sum(size);
        Sum second = sum(random.nextInt(size + 1));
        return new Answer(first.text() + relation + second.text(), relation, null, null, first, second);
    }

    /** A part of "and" or "or"; one of the same word may stand bare to the left alone, since that is what it means. */
    private Answer part(int size, String word, boolean right) {
        Answer part = answer(size);
        boolean same = part.kind().equals(word);
        boolean looser = word.equals("and") && part.kind().equals("or");
        boolean bracket = looser || same && right || random.nextInt(5) == 0;
        return bracket ? new Answer("(" + part.text() + ")", part.kind(), part.a(), part.b(), part.first(), part.second()) : part;
    }

    private static int binds(Sum sum) {
        if (sum.kind().equals("+") || sum.kind().equals("-")) {
            return 1;
        }
        return sum.right() != null ? 2 : 3;
    }

    private Sum inBrackets(Sum sum, boolean needed) {
        return needed || random.nextInt(8) == 0 ? new Sum("(" + sum.text() + ")", "(", 0, sum, null) : sum;
    }

    private Sum sum(int size) {
        int kind = size <= 0 ? random.nextInt(3) : random.nextInt(8);
        if (kind >= 5) {
            String operation = OPERATIONS[random.nextInt(OPERATIONS.length)];
            int strength = operation.equals("+") || operation.equals("-") ? 1 : 2;
            Sum left = sum(size - 1);
            Sum right = sum(size - 1);
            left = inBrackets(left, binds(left) < strength);
            right = inBrackets(right, binds(right) <= strength);
            return new Sum(left.text() + operation + right.text(), operation, 0, left, right);
        }
        if (kind >= 2) {
            Sum place = size > 0 ? sum(size - 1) : number(random.nextInt(10));
            int count = 1 << random.nextInt(3);
            String width = count == 1 && random.nextBoolean() ? "" : ":" + count;
            return new Sum("[" + place.text() + width + "]", "[", count, place, null);
        }
        long[] odd = {0, 1, 2, 3, 8, 31, 32, 255, 65536, 0x7fffffffL, 0x80000000L, 0xffffffffL};
        return kind == 1 ? new Sum("len", "len", 0, null, null) : number(odd[random.nextInt(odd.length)]);
    }

    private Sum number(long value) {
        return new Sum(random.nextBoolean() ? "0x" + Long.toHexString(value) : Long.toString(value), "number", value, null, null);
    }
}
