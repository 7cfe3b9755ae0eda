import java.math.BigInteger;
import java.util.ArrayList;
import java.util.HashMap;
import java.util.List;
import java.util.Map;
import java.util.Random;
import java.util.regex.Matcher;
import java.util.regex.Pattern;

/** assemble() against a second reading of term 4, made with regular expressions, on random texts. */
public final class TextOracleTest {
    private static final Bench BENCH = new Bench("TextOracleTest");
    private static final Pattern TOKEN =
            Pattern.compile("(?<hex>0x[0-9a-f]*)|(?<decimal>[0-9]+)|(?<word>[a-z][a-z0-9]*)|(?<sign>[M#\\[\\]+*()&,:])|(?<bad>[^ ])",
                    Pattern.DOTALL);
    private static final List<String> CALCULATIONS =
            List.of("add", "sub", "mul", "div", "or", "and", "lsh", "rsh", "", "mod", "xor");
    private static final List<String> JUMPS = List.of("jeq", "jgt", "jge", "jset");
    private static final String[] LABELS = {"a", "b", "x", "e9", "ld", "abcdefgh", "abcdefghi", "len"};
    private static final String[] NUMBERS = {"0", "7", "15", "16", "0xf", "0x10", "4294967295", "4", "0x", "4294967296", "0x123456789"};

    public static void main(String[] args) {
        Random random = new Random(41);
        int right = 0;
        for (int n = 0; n < 40000; n++) {
            String text = text(random, n % 3 == 0 ? 0 : 60);
            right += compare(text);
            compare(changed(random, text));
        }
        for (int n = 0; n < 50; n++) {
            StringBuilder text = new StringBuilder();
            for (int line = 0; line < 197 + n % 7; line++) {
                text.append(random.nextInt(150) == 0 ? "foo\n" : "neg\n");
            }
            compare(text + text(random, 0));
        }
        BENCH.due("enough right ones: " + right, right > 2000, true);
        BENCH.finish();
    }

    private static int compare(String text) {
        BerkeleySieve x = new BerkeleySieve();
        int count = Bench.assemble(x, text);
        Oracle oracle = new Oracle();
        String fault = oracle.fault(text);
        BENCH.due("fault of " + text, Bench.fault(x), fault);
        if (!fault.equals("0@-1")) {
            BENCH.due("assemble() of " + text, count, -1);
            return 0;
        }
        BENCH.due("assemble() of " + text, count, oracle.steps.size());
        BENCH.due("program of " + text, Bench.numbers(x), oracle.numbers());
        return 1;
    }

    private static String pick(Random random, String[] all, int odd) {
        return all[random.nextInt(odd > 0 && random.nextInt(odd) == 0 ? all.length : all.length * 2 / 3)];
    }

    private static String text(Random random, int odd) {
        StringBuilder text = new StringBuilder();
        for (int line = random.nextInt(7); line >= 0; line--) {
            if (random.nextInt(4) == 0) {
                text.append(pick(random, LABELS, odd)).append(random.nextInt(3) == 0 ? " : " : ":");
            }
            if (random.nextInt(5) > 0) {
                text.append(" ").append(instruction(random, odd));
            }
            if (random.nextInt(8) == 0) {
                text.append("; so #$");
            }
            text.append("\n");
        }
        if (random.nextInt(4) == 0) {
            text.append("ja ").append(pick(random, LABELS, odd));
        }
        return text + "\na: \nb:\nld:".substring(0, random.nextInt(3) * 4);
    }

    private static String instruction(Random random, int odd) {
        String k = pick(random, NUMBERS, odd);
        String label = pick(random, LABELS, odd);
        String[] forms = {"ld #" + k, "ld [" + k + "]", "ldh [" + k + "]", "ldb [x+" + k + "]", "ld M[" + k + "]", "ld len",
            "ldx #" + k, "ldx M[" + k + "]", "ldx 4*([" + k + "]&0xf)", "ldx len", "st M[" + k + "]", "stx M[ " + k + "]",
            "add #" + k, "or x", "mod x", "xor # " + k, "neg", "ja " + label, "jeq #" + k + "," + label,
            "jset x , " + label + ", " + pick(random, LABELS, odd), "ret #" + k, "ret a", "tax", "txa", "jge #" + k + "," + label
            + "," + pick(random, LABELS, odd)};
        return forms[random.nextInt(forms.length)];
    }

    private static String changed(Random random, String text) {
        String signs = "abjx 01M#[]+*()&,:;\n\n  $f";
        StringBuilder other = new StringBuilder(text);
        int at = random.nextInt(text.length() + 1);
        if (at < text.length() && random.nextBoolean()) {
            other.deleteCharAt(at);
        }
        if (random.nextBoolean()) {
            other.insert(at, signs.charAt(random.nextInt(signs.length())));
        }
        return other.toString();
    }

    private record Step(int line, int code, long k, String yes, String no) { }

    private static final class Oracle {
        private final List<Step> steps = new ArrayList<>();
        private final Map<String, Integer> labels = new HashMap<>();

        /** "error@line". */
        String fault(String text) {
            String[] lines = text.split("\n", -1);
            for (int n = 0; n < lines.length; n++) {
                int error = line(lines[n].replaceFirst("(?s);.*", ""), n + 1);
                if (error != 0) {
                    return error + "@" + (n + 1);
                }
            }
            for (int i = 0; i < steps.size(); i++) {
                Step step = steps.get(i);
                boolean untold = step.yes() != null && !labels.containsKey(step.yes())
                        || step.no() != null && !labels.containsKey(step.no());
                if (untold) {
                    return "4@" + step.line();
                }
                if (distance(i, step.yes()) < 0 || distance(i, step.no()) < 0) {
                    return "5@" + step.line();
                }
            }
            return "0@-1";
        }

        private int distance(int i, String label) {
            return label == null ? 0 : labels.get(label) - i - 1;
        }

        private int line(String line, int number) {
            List<String> tokens = new ArrayList<>();
            Matcher matcher = TOKEN.matcher(line);
            while (matcher.find()) {
                boolean noNumber = matcher.group("hex") != null && !matcher.group().matches("0x[0-9a-f]{1,8}")
                        || matcher.group("decimal") != null
                        && new BigInteger(matcher.group()).compareTo(BigInteger.valueOf(4294967295L)) > 0;
                tokens.add(noNumber || matcher.group("bad") != null ? "?" : matcher.group());
            }
            if (tokens.isEmpty()) {
                return 0;
            }
            if (tokens.size() > 1 && tokens.get(0).matches("[a-z].*") && tokens.get(1).equals(":")) {
                if (tokens.get(0).length() > 8) {
                    return 1;
                }
                if (labels.containsKey(tokens.get(0))) {
                    return 3;
                }
                labels.put(tokens.get(0), steps.size());
                tokens = tokens.subList(2, tokens.size());
            }
            if (tokens.isEmpty()) {
                return 0;
            }
            if (!tokens.get(0).matches("[a-z].*")) {
                return 1;
            }
            if (!tokens.get(0).matches("ld|ldh|ldb|ldx|st|stx|add|sub|mul|div|or|and|lsh|rsh|mod|xor|neg|ja|jeq|jgt|jge|jset|ret|tax|txa")) {
                return 2;
            }
            Step step = step(String.join(" ", tokens), number);
            if (step == null) {
                return 1;
            }
            steps.add(step);
            return steps.size() > 200 ? 6 : 0;
        }

        private static Step step(String text, int line) {
            String k = "(?<k>0x[0-9a-f]+|[0-9]+)";
            String label = "[a-z][a-z0-9]{0,7}";
            Object[][] rows = {
                {"ld # " + k, 0x00}, {"ld \\[ " + k + " \\]", 0x20}, {"ldh \\[ " + k + " \\]", 0x28},
                {"ldb \\[ " + k + " \\]", 0x30}, {"ld \\[ x \\+ " + k + " \\]", 0x40}, {"ldh \\[ x \\+ " + k + " \\]", 0x48},
                {"ldb \\[ x \\+ " + k + " \\]", 0x50}, {"ld M \\[ " + k + " \\]", 0x60}, {"ld len", 0x80}, {"ldx # " + k, 0x01},
                {"ldx M \\[ " + k + " \\]", 0x61}, {"ldx len", 0x81}, {"ldx 4 \\* \\( \\[ " + k + " \\] & 0xf \\)", 0xb1},
                {"st M \\[ " + k + " \\]", 0x02}, {"stx M \\[ " + k + " \\]", 0x03}, {"neg", 0x84},
                {"ja (?<yes>" + label + ")", 0x05}, {"ret # " + k, 0x06}, {"ret a", 0x16}, {"tax", 0x07}, {"txa", 0x87}};
            for (Object[] row : rows) {
                Matcher matcher = Pattern.compile((String) row[0]).matcher(text);
                if (matcher.matches()) {
                    return made(line, (Integer) row[1], (String) row[0], matcher);
                }
            }
            String name = text.replaceFirst(" .*", "");
            String way = JUMPS.contains(name) ? " , (?<yes>" + label + ")( , (?<no>" + label + "))?" : "";
            int code = JUMPS.contains(name) ? 0x15 + 16 * JUMPS.indexOf(name) : 4 + 16 * CALCULATIONS.indexOf(name);
            if (!JUMPS.contains(name) && !CALCULATIONS.contains(name)) {
                return null;
            }
            String number = name + " # " + k + way;
            Matcher matcher = Pattern.compile(number).matcher(text);
            if (matcher.matches()) {
                return made(line, code, number, matcher);
            }
            matcher = Pattern.compile(name + " x" + way).matcher(text);
            return matcher.matches() ? made(line, code + 8, way, matcher) : null;
        }

        private static Step made(int line, int code, String pattern, Matcher matcher) {
            String k = pattern.contains("<k>") ? matcher.group("k") : "0";
            long value = k.startsWith("0x") ? Long.parseLong(k.substring(2), 16) : new BigInteger(k).longValue();
            return new Step(line, code, value, pattern.contains("<yes>") ? matcher.group("yes") : null,
                    pattern.contains("<no>") ? matcher.group("no") : null);
        }

        String numbers() {
            StringBuilder text = new StringBuilder();
            for (int i = 0; i < steps.size(); i++) {
                Step step = steps.get(i);
                boolean far = step.code() == 5;
                text.append(i == 0 ? "" : "; ").append(Integer.toHexString(step.code()))
                        .append(' ').append(far ? 0 : distance(i, step.yes())).append(' ').append(distance(i, step.no()))
                        .append(' ').append(far ? distance(i, step.yes()) : step.k());
            }
            return text.toString();
        }
    }
}
