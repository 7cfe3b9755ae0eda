import java.util.ArrayList;
import java.util.HashSet;
import java.util.List;
import java.util.Random;
import java.util.Set;

/**
 * bad(), why(), run() and plainer() against second readings of terms 2, 3 and 6 on random programs:
 * faults by going all ways, plainer by beginning anew after each thing that is done.
 */
public final class ProgramOracleTest {
    private static final Bench BENCH = new Bench("ProgramOracleTest");
    private static final int[] CODES = {0x00, 0x20, 0x28, 0x30, 0x40, 0x48, 0x50, 0x60, 0x80, 0x01, 0x61, 0x81, 0xb1, 0x02, 0x03,
        0x04, 0x14, 0x24, 0x34, 0x44, 0x54, 0x64, 0x74, 0x94, 0xa4, 0x0c, 0x1c, 0x2c, 0x3c, 0x4c, 0x5c, 0x6c, 0x7c, 0x9c, 0xac,
        0x84, 0x05, 0x15, 0x25, 0x35, 0x45, 0x1d, 0x2d, 0x3d, 0x4d, 0x06, 0x16, 0x07, 0x87};
    private static final int[] PLAIN = {0x00, 0x80, 0x60, 0x87, 0x04, 0x24, 0x34, 0x05, 0x05, 0x05, 0x15, 0x25, 0x1d, 0x15, 0x06};

    public static void main(String[] args) {
        Random random = new Random(97);
        int valid = 0;
        for (int n = 0; n < 60000; n++) {
            valid += compare(random, program(random, n % 4));
        }
        BENCH.due("enough valid ones: " + valid, valid > 20000, true);
        int long200 = 0;
        for (int n = 0; n < 40; n++) {
            long200 += compare(random, longProgram(random));
        }
        BENCH.due("all long ones are valid", long200, 40);
        BENCH.finish();
    }

    private static List<int[]> longProgram(Random random) {
        List<int[]> rows = new ArrayList<>();
        for (int word = 0; word < 3; word++) {
            rows.add(new int[] {2, 0, 0, word});
        }
        while (rows.size() < 199) {
            int room = Math.min(199 - rows.size(), 1 + random.nextInt(40));
            int code = PLAIN[random.nextInt(PLAIN.length - 1)];
            int k = code == 5 ? random.nextInt(room) : random.nextInt(2) + (code == 0x34 ? 1 : 0);
            rows.add(new int[] {code, random.nextInt(room), random.nextInt(room), k});
        }
        rows.add(new int[] {0x16, 0, 0, 0});
        return rows;
    }

    private static List<int[]> program(Random random, int kind) {
        int size = 1 + random.nextInt(12);
        List<int[]> rows = new ArrayList<>();
        if (kind != 0) {
            for (int word = 0; word < 3; word++) {
                rows.add(new int[] {2 + word % 2, 0, 0, word});
            }
            size += 3;
        }
        while (rows.size() < size - 1) {
            rows.add(row(random, kind == 3 ? PLAIN : CODES, rows.size(), size));
        }
        rows.add(random.nextInt(20) == 0 ? row(random, CODES, size - 1, size)
                : new int[] {random.nextBoolean() ? 6 : 0x16, 0, 0, random.nextInt(9)});
        return rows;
    }

    private static int row(Random random, int limit) {
        return limit <= 0 ? 0 : random.nextInt(Math.min(limit, 6));
    }

    private static int[] row(Random random, int[] codes, int i, int size) {
        int code = codes[random.nextInt(codes.length)];
        int room = size - i - 1 + (random.nextInt(60) == 0 ? 2 : 0);
        int[] odd = {0, 1, 15, 16, 31, 32, -1, -2, Integer.MIN_VALUE, 0x10000};
        int k = random.nextInt(3) == 0 ? odd[random.nextInt(random.nextInt(3) == 0 ? odd.length : 2)] : random.nextInt(3);
        if (code == 5) {
            k = random.nextInt(80) == 0 ? k : row(random, room);
        }
        if ((code == 0x34 || code == 0x94) && random.nextInt(4) > 0) {
            k = 1 + random.nextInt(2);
        }
        boolean jumps = (code & 7) == 5;
        return new int[] {random.nextInt(300) == 0 ? random.nextInt(65536) : code,
            jumps ? row(random, room) : random.nextInt(256), jumps ? row(random, room) : random.nextInt(256), k};
    }

    private static int compare(Random random, List<int[]> rows) {
        int[][] all = rows.toArray(new int[0][]);
        BerkeleySieve x = Bench.program(all);
        String shown = Bench.numbers(() -> Bench.program(all));
        int[] fault = fault(rows);
        BENCH.due("bad() of " + shown, x.bad(), fault[0]);
        BENCH.due("why() of " + shown, x.why(), fault[1]);
        int[] bytes = new int[random.nextInt(9)];
        for (int i = 0; i < bytes.length; i++) {
            bytes[i] = random.nextInt(random.nextBoolean() ? 256 : 4);
        }
        Bench.packet(x, bytes);
        if (fault[1] != 0) {
            BENCH.due("run() of " + shown, x.run(), -1);
            BENCH.due("plainer() of " + shown, x.plainer(), -1);
            BENCH.due("the program stays: " + shown, Bench.numbers(x), shown);
            return 0;
        }
        String result = ran(x);
        BENCH.due("run of " + shown, result, run(rows, bytes));
        Plainer plainer = new Plainer(rows);
        BENCH.due("plainer() of " + shown, x.plainer(), plainer.times());
        BENCH.due("the plainer one of " + shown, Bench.numbers(() -> madePlainer(all)), plainer.numbers());
        BENCH.due("why() of the plainer one of " + shown, x.why(), 0);
        String then = ran(x);
        BENCH.due("the plainer one's answer of " + shown, then.split(" ")[1], result.split(" ")[1]);
        return 1;
    }

    private static BerkeleySieve madePlainer(int[][] rows) {
        BerkeleySieve x = Bench.program(rows);
        x.plainer();
        return x;
    }

    private static String ran(BerkeleySieve x) {
        StringBuilder text = new StringBuilder().append(x.run());
        for (int what = 0; what < 26; what++) {
            text.append(' ').append(x.ran(what));
        }
        return text.toString();
    }

    private static boolean known(int code) {
        for (int one : CODES) {
            if (one == code) {
                return true;
            }
        }
        return false;
    }

    private static boolean isBranch(int code) {
        return code == 0x15 || code == 0x25 || code == 0x35 || code == 0x45
                || code == 0x1d || code == 0x2d || code == 0x3d || code == 0x4d;
    }

    private static int[] fault(List<int[]> rows) {
        for (int i = 0; i < rows.size(); i++) {
            int reason = reason(rows, i);
            if (reason != 0) {
                return new int[] {i, reason};
            }
        }
        return new int[] {-1, 0};
    }

    private static int reason(List<int[]> rows, int i) {
        int[] row = rows.get(i);
        int code = row[0];
        long k = Integer.toUnsignedLong(row[3]);
        if (!known(code)) {
            return 1;
        }
        if (code == 5 && i + 1 + k >= rows.size()
                || isBranch(code) && i + 1 + Math.max(row[1], row[2]) >= rows.size()) {
            return 2;
        }
        if ((code == 0x60 || code == 0x61 || code == 2 || code == 3) && k > 15) {
            return 3;
        }
        if ((code == 0x34 || code == 0x94) && k == 0 || (code == 0x64 || code == 0x74) && k > 31) {
            return 4;
        }
        if ((code == 0x60 || code == 0x61) && comesUnwritten(rows, 0, i, (int) k, new HashSet<>())) {
            return 5;
        }
        return i == rows.size() - 1 && code != 6 && code != 0x16 ? 6 : 0;
    }

    /** Whether a way leads from one instruction to another without a st of the word. */
    private static boolean comesUnwritten(List<int[]> rows, int from, int to, int word, Set<Integer> seen) {
        if (from == to) {
            return true;
        }
        if (from > to || !seen.add(from)) {
            return false;
        }
        int[] row = rows.get(from);
        if ((row[0] == 2 || row[0] == 3) && row[3] == word || row[0] == 6 || row[0] == 0x16) {
            return false;
        }
        if (row[0] == 5) {
            return comesUnwritten(rows, from + 1 + row[3], to, word, seen);
        }
        if (isBranch(row[0])) {
            return comesUnwritten(rows, from + 1 + row[1], to, word, seen)
                    || comesUnwritten(rows, from + 1 + row[2], to, word, seen);
        }
        return comesUnwritten(rows, from + 1, to, word, seen);
    }

    private static String run(List<int[]> rows, int[] bytes) {
        int a = 0;
        int x = 0;
        int[] m = new int[16];
        int steps = 0;
        int i = 0;
        int result = 0;
        boolean came = false;
        for (int next = 0; next >= 0;) {
            i = next;
            steps++;
            int[] row = rows.get(i);
            int k = row[3];
            int other = (row[0] & 8) != 0 ? x : k;
            next = i + 1;
            switch (row[0]) {
                case 0x00 -> a = k;
                case 0x20, 0x28, 0x30, 0x40, 0x48, 0x50 -> {
                    int width = (row[0] & 0x18) == 0 ? 4 : (row[0] & 0x18) == 8 ? 2 : 1;
                    long place = Integer.toUnsignedLong(k) + (row[0] >= 0x40 ? Integer.toUnsignedLong(x) : 0);
                    if (place + width > bytes.length) {
                        next = -1;
                    } else {
                        a = 0;
                        for (int n = 0; n < width; n++) {
                            a = a * 256 + bytes[(int) place + n];
                        }
                    }
                }
                case 0x60 -> a = m[k];
                case 0x80 -> a = bytes.length;
                case 0x01 -> x = k;
                case 0x61 -> x = m[k];
                case 0x81 -> x = bytes.length;
                case 0xb1 -> {
                    if (Integer.toUnsignedLong(k) >= bytes.length) {
                        next = -1;
                    } else {
                        x = 4 * (bytes[k] % 16);
                    }
                }
                case 0x02 -> m[k] = a;
                case 0x03 -> m[k] = x;
                case 0x04, 0x0c -> a += other;
                case 0x14, 0x1c -> a -= other;
                case 0x24, 0x2c -> a *= other;
                case 0x34, 0x3c, 0x94, 0x9c -> {
                    if (other == 0) {
                        next = -1;
                    } else {
                        a = row[0] < 0x90 ? Integer.divideUnsigned(a, other) : Integer.remainderUnsigned(a, other);
                    }
                }
                case 0x44, 0x4c -> a |= other;
                case 0x54, 0x5c -> a &= other;
                case 0x64, 0x6c -> a = Integer.compareUnsigned(other, 31) > 0 ? 0 : a << other;
                case 0x74, 0x7c -> a = Integer.compareUnsigned(other, 31) > 0 ? 0 : a >>> other;
                case 0xa4, 0xac -> a ^= other;
                case 0x84 -> a = 0 - a;
                case 0x05 -> next += k;
                case 0x15, 0x1d -> next += a == other ? row[1] : row[2];
                case 0x25, 0x2d -> next += Integer.compareUnsigned(a, other) > 0 ? row[1] : row[2];
                case 0x35, 0x3d -> next += Integer.compareUnsigned(a, other) >= 0 ? row[1] : row[2];
                case 0x45, 0x4d -> next += (a & other) != 0 ? row[1] : row[2];
                case 0x07 -> x = a;
                case 0x87 -> a = x;
                default -> {
                    result = row[0] == 6 ? k : a;
                    came = true;
                    next = -1;
                }
            }
        }
        StringBuilder text = new StringBuilder().append(came ? 1 : 0);
        for (int one : new int[] {result, steps, a, x, i, 0, 0, 0, 0, 0}) {
            text.append(' ').append(one);
        }
        for (int word : m) {
            text.append(' ').append(word);
        }
        return text.toString();
    }

    /** An instruction whose jumps lead to instructions, not over distances. */
    private static final class Node {
        int code;
        int jt;
        int jf;
        int k;
        Node yes;
        Node no;
    }

    private static final class Plainer {
        private final List<Node> nodes = new ArrayList<>();

        Plainer(List<int[]> rows) {
            for (int[] row : rows) {
                Node node = new Node();
                node.code = row[0];
                node.jt = row[1];
                node.jf = row[2];
                node.k = row[3];
                nodes.add(node);
            }
            for (int i = 0; i < rows.size(); i++) {
                Node node = nodes.get(i);
                if (node.code == 5) {
                    node.yes = nodes.get(i + 1 + node.k);
                } else if (isBranch(node.code)) {
                    node.yes = nodes.get(i + 1 + node.jt);
                    node.no = nodes.get(i + 1 + node.jf);
                }
            }
        }

        int times() {
            int times = 0;
            while (once()) {
                times++;
            }
            return times;
        }

        private boolean once() {
            for (char what = 'a'; what <= 'f'; what++) {
                for (int i = 0; i < nodes.size(); i++) {
                    if (done(what, i)) {
                        return true;
                    }
                }
            }
            return false;
        }

        private boolean done(char what, int i) {
            Node node = nodes.get(i);
            Node next = i + 1 < nodes.size() ? nodes.get(i + 1) : null;
            switch (what) {
                case 'a':
                    if (node.yes != null && node.yes.code == 5) {
                        node.yes = node.yes.yes;
                        return true;
                    }
                    if (node.no != null && node.no.code == 5) {
                        node.no = node.no.yes;
                        return true;
                    }
                    return false;
                case 'b':
                    if (node.no == null || node.yes != node.no) {
                        return false;
                    }
                    node.code = 5;
                    node.jt = 0;
                    node.jf = 0;
                    node.no = null;
                    return true;
                case 'c':
                    return node.code == 5 && node.yes == next && gone(i);
                case 'd':
                    return i > 0 && !comes(0, node, new HashSet<>()) && gone(i);
                case 'e':
                    boolean zero = node.k == 0 && Set.of(0x04, 0x14, 0x44, 0xa4, 0x64, 0x74).contains(node.code);
                    boolean one = node.k == 1 && Set.of(0x24, 0x34).contains(node.code);
                    return (zero || one) && !isJumpedTo(node) && gone(i);
                default:
                    Set<Integer> loads = Set.of(0x00, 0x80, 0x60, 0x87);
                    return next != null && loads.contains(node.code) && loads.contains(next.code)
                            && !isJumpedTo(next) && gone(i);
            }
        }

        private boolean comes(int from, Node to, Set<Integer> seen) {
            Node node = nodes.get(from);
            if (node == to) {
                return true;
            }
            if (!seen.add(from) || node.code == 6 || node.code == 0x16) {
                return false;
            }
            if (node.yes == null) {
                return comes(from + 1, to, seen);
            }
            return comes(nodes.indexOf(node.yes), to, seen)
                    || node.no != null && comes(nodes.indexOf(node.no), to, seen);
        }

        private boolean isJumpedTo(Node to) {
            for (Node node : nodes) {
                if (node.yes == to || node.no == to) {
                    return true;
                }
            }
            return false;
        }

        private boolean gone(int i) {
            Node node = nodes.get(i);
            Node next = i + 1 < nodes.size() ? nodes.get(i + 1) : null;
            for (Node other : nodes) {
                other.yes = other.yes == node ? next : other.yes;
                other.no = other.no == node ? next : other.no;
            }
            nodes.remove(i);
            return true;
        }

        String numbers() {
            StringBuilder text = new StringBuilder();
            for (int i = 0; i < nodes.size(); i++) {
                Node node = nodes.get(i);
                int jt = isBranch(node.code) ? nodes.indexOf(node.yes) - i - 1 : node.jt;
                int jf = isBranch(node.code) ? nodes.indexOf(node.no) - i - 1 : node.jf;
                int k = node.code == 5 ? nodes.indexOf(node.yes) - i - 1 : node.k;
                text.append(i == 0 ? "" : "; ").append(Integer.toHexString(node.code)).append(' ').append(jt)
                        .append(' ').append(jf).append(' ').append(Integer.toUnsignedString(k));
            }
            return text.toString();
        }
    }
}
