/**
 * The edges that terms 1 and 3 and promises 12, 13 and 14 name, a test for each sentence: the last case that
 * is allowed and the first one that isn't, on both sides where there are two.
 */
public final class RunEdgesTest {
    private static final Bench BENCH = new Bench("RunEdgesTest");
    private static final int TOP = Integer.MIN_VALUE;
    private static final int BELOW_TOP = Integer.MAX_VALUE;
    private static final int[] RET = Bench.row(6, 77);
    private static final int[] SIZES = {0, 1, 2, 3, 4, 5, 599, 600};

    public static void main(String[] args) {
        packetOf600();
        packetOfNone();
        startsWithZeros();
        eachOneAStep();
        theFirstOneHighest();
        bytesAtPlace();
        bytesBehindX();
        sumDoesntWrap();
        headerByte();
        howManyBytes();
        endsReturning0();
        sumsWrap();
        productsWrap();
        bitsOfNumbers();
        negation();
        divisions();
        zeroDivisors();
        shifts();
        comparisons();
        commonBits();
        wordsAndMoves();
        returns();
        notValid();
        ranOthers();
        latestRun();
        BENCH.finish();
    }

    /** The byte at each place is another one than its neighbours. */
    private static int byteAt(int place) {
        return place * 7 + 0x93 & 255;
    }

    private static int[] bytes(int count) {
        int[] bytes = new int[count];
        for (int i = 0; i < count; i++) {
            bytes[i] = byteAt(i);
        }
        return bytes;
    }

    private static BerkeleySieve ran(int packet, int due, int[]... rows) {
        BerkeleySieve x = Bench.program(rows);
        Bench.packet(x, bytes(packet));
        BENCH.due("run() on " + packet + " bytes of " + Bench.numbers(() -> Bench.program(rows)), x.run(), due);
        return x;
    }

    /** A and X before the instruction, and A behind it. */
    private static void leaves(int a, int x, int[] row, int due) {
        BerkeleySieve sieve = ran(0, 1, Bench.row(0, a), Bench.row(1, x), row, Bench.row(0x16, 0));
        String shown = Bench.numbers(sieve);
        BENCH.due("ran(0) of " + shown, sieve.ran(0), due);
        BENCH.due("ran(2) of " + shown, sieve.ran(2), due);
        BENCH.due("ran(3) of " + shown, sieve.ran(3), x);
        BENCH.due("ran(1) of " + shown, sieve.ran(1), 4);
    }

    /** The same with a number and with x. */
    private static void calculates(int code, int a, int other, int due) {
        leaves(a, 5, Bench.row(code, other), due);
        leaves(a, other, Bench.row(code + 8, 5), due);
    }

    private static void packetOf600() {
        BENCH.says("how many BYTES; NONE if these are more than 600");
        for (int size : new int[] {599, 600, 601, 602, 4000}) {
            BerkeleySieve x = Bench.program(Bench.row(0x80, 0), Bench.row(0x16, 0));
            Bench.packet(x, 1, 2, 3);
            boolean fits = size <= 600;
            BENCH.due("packet() of " + size, Bench.packet(x, bytes(size)), fits ? size : -1);
            BENCH.due("count(1) behind it", x.count(1), fits ? size : 3);
            BENCH.due("count(2) behind it", x.count(2), fits ? 0 : size);
            x.run();
            BENCH.due("ld len behind it", x.ran(0), fits ? size : 3);
        }
    }

    private static void packetOfNone() {
        BENCH.says("The PACKET is what the TAPE (which is empty then) has");
        BerkeleySieve x = Bench.program(Bench.row(0x30, 0), Bench.row(0x16, 0));
        BENCH.due("packet() of an empty tape", x.packet(), 0);
        BENCH.due("count(1)", x.count(1), 0);
        BENCH.due("run() on none", x.run(), 0);
        BENCH.due("packet() of one byte", Bench.packet(x, 200), 1);
        BENCH.due("count(1)", x.count(1), 1);
        BENCH.due("count(2)", x.count(2), 0);
        BENCH.due("run() on one", x.run(), 1);
        BENCH.due("ran(0)", x.ran(0), 200);
        BENCH.due("packet() of the tape that is empty then", x.packet(), 0);
        BENCH.due("run() on none again", x.run(), 0);
    }

    private static void startsWithZeros() {
        BENCH.says("A, X, all M being 0 at first");
        BerkeleySieve x = new BerkeleySieve();
        x.put(0, 0, 0, 5);
        x.put(1, 0, 0, 6);
        for (int word = 0; word < 16; word++) {
            x.put(2, 0, 0, word);
        }
        x.put(6, 0, 0, 0);
        x.run();
        for (int what = 10; what < 26; what++) {
            BENCH.due("ran(" + what + ")", x.ran(what), 5);
        }
        x.clear();
        x.put(6, 0, 0, 0);
        x.run();
        for (int what = 0; what < 26; what++) {
            BENCH.due("ran(" + what + ") of the next run", x.ran(what), what == 1 ? 1 : 0);
        }
    }

    private static void eachOneAStep() {
        BENCH.says("instruction 0 first, each one a step, then the next one");
        for (int count : new int[] {1, 2, 199, 200}) {
            BerkeleySieve x = new BerkeleySieve();
            for (int n = 1; n < count; n++) {
                x.put(4, 0, 0, 1);
            }
            x.put(0x16, 0, 0, 0);
            BENCH.due("run() of " + count, x.run(), 1);
            BENCH.due("ran(0) of " + count, x.ran(0), count - 1);
            BENCH.due("ran(1) of " + count, x.ran(1), count);
            BENCH.due("ran(4) of " + count, x.ran(4), count - 1);
        }
        // What is jumped over is no step.
        BerkeleySieve x = ran(0, 1, Bench.row(5, 2), RET, RET, Bench.row(6, 3));
        BENCH.due("ran(1) with a jump", x.ran(1), 2);
        BENCH.due("ran(4) with a jump", x.ran(4), 3);
        BENCH.due("ran(0) with a jump", x.ran(0), 3);
    }

    private static void theFirstOneHighest() {
        BENCH.says("the four (ldh two, ldb one) BYTES from place K on, the first one highest");
        BerkeleySieve x = new BerkeleySieve();
        Bench.packet(x, 0xff, 0x80, 0x7f, 0x00, 0x01);
        int[][] due = {{0x20, 0, 0xff807f00}, {0x20, 1, 0x807f0001}, {0x28, 0, 0xff80}, {0x28, 3, 1}, {0x30, 0, 0xff}, {0x30, 3, 0}};
        for (int[] row : due) {
            x.clear();
            x.put(0, 0, 0, -1);
            x.put(row[0], 0, 0, row[1]);
            x.put(0x16, 0, 0, 0);
            BENCH.due("run()", x.run(), 1);
            BENCH.due("ran(0) of code " + row[0] + " at " + row[1], x.ran(0), row[2]);
        }
    }

    private static int width(int code) {
        return (code & 0x18) == 0 ? 4 : (code & 0x18) == 8 ? 2 : 1;
    }

    private static int bytesFrom(int place, int width) {
        int number = 0;
        for (int i = 0; i < width; i++) {
            number = number << 8 | byteAt(place + i);
        }
        return number;
    }

    private static void bytesAtPlace() {
        BENCH.says("Where one of these BYTES isn't there, the RUN ends, returning 0");
        for (int code : new int[] {0x20, 0x28, 0x30}) {
            int width = width(code);
            for (int size : SIZES) {
                for (int place = Math.max(0, size - 5); place < size + 2; place++) {
                    boolean there = place + width <= size;
                    BerkeleySieve x = ran(size, there ? 1 : 0, Bench.row(0, 99), Bench.row(code, place), Bench.row(0x16, 0));
                    BENCH.due("ran(0), " + size + " bytes, place " + place, x.ran(0), there ? bytesFrom(place, width) : 0);
                    BENCH.due("ran(2), " + size + " bytes, place " + place, x.ran(2), there ? bytesFrom(place, width) : 99);
                    BENCH.due("ran(1), " + size + " bytes, place " + place, x.ran(1), there ? 3 : 2);
                    BENCH.due("ran(4), " + size + " bytes, place " + place, x.ran(4), there ? 2 : 1);
                }
                for (int place : new int[] {BELOW_TOP, TOP, -1, -2, -4, 256 * 256}) {
                    ran(size, 0, Bench.row(code, place), RET);
                }
            }
        }
    }

    private static void bytesBehindX() {
        BENCH.says("[x+k]: from the sum of X and K on");
        for (int code : new int[] {0x40, 0x48, 0x50}) {
            int width = width(code);
            for (int size : SIZES) {
                for (int place = Math.max(0, size - 5); place < size + 2; place++) {
                    for (int k : new int[] {0, place / 2, place}) {
                        boolean there = place + width <= size;
                        BerkeleySieve x = ran(size, there ? 1 : 0, Bench.row(1, place - k), Bench.row(code, k), Bench.row(0x16, 0));
                        BENCH.due("ran(0), " + size + " bytes, place " + place, x.ran(0), there ? bytesFrom(place, width) : 0);
                        BENCH.due("ran(3), " + size + " bytes, place " + place, x.ran(3), place - k);
                        BENCH.due("ran(4), " + size + " bytes, place " + place, x.ran(4), there ? 2 : 1);
                    }
                }
            }
        }
    }

    private static void sumDoesntWrap() {
        BENCH.says("the sum of X and K on, which doesn't wrap");
        int[][] sums = {{-1, 1}, {1, -1}, {TOP, TOP}, {-1, 2}, {-2, 2}, {-1, -1}, {BELOW_TOP, BELOW_TOP}, {TOP, BELOW_TOP}, {0, -1},
            {-1, 0}, {0, TOP}, {TOP, 0}, {BELOW_TOP, 1}};
        for (int code : new int[] {0x40, 0x48, 0x50}) {
            for (int[] sum : sums) {
                BerkeleySieve x = ran(600, 0, Bench.row(1, sum[0]), Bench.row(code, sum[1]), RET);
                BENCH.due("ran(0)", x.ran(0), 0);
                BENCH.due("ran(4)", x.ran(4), 1);
            }
        }
    }

    private static void headerByte() {
        BENCH.says("X is 4 times the lower 4 bits of the BYTE at K");
        for (int value : new int[] {0x00, 0x0f, 0x10, 0x45, 0xf0, 0xff}) {
            BerkeleySieve x = Bench.program(Bench.row(0xb1, 1), RET);
            Bench.packet(x, 0xaa, value);
            BENCH.due("run()", x.run(), 1);
            BENCH.due("ran(3) of byte " + value, x.ran(3), 4 * (value % 16));
            BENCH.due("ran(2) of byte " + value, x.ran(2), 0);
        }
        for (int size : SIZES) {
            for (int place : new int[] {0, 1, size - 1, size, size + 1, TOP, BELOW_TOP}) {
                boolean there = place >= 0 && place < size;
                BerkeleySieve x = ran(size, there ? 1 : 0, Bench.row(1, 9), Bench.row(0xb1, place), RET);
                BENCH.due("ran(3), " + size + " bytes, place " + place, x.ran(3), there ? 4 * (byteAt(place) % 16) : 9);
                BENCH.due("ran(0), " + size + " bytes, place " + place, x.ran(0), there ? 77 : 0);
            }
        }
    }

    private static void howManyBytes() {
        BENCH.says("len: how many BYTES there are");
        for (int size : SIZES) {
            BerkeleySieve x = ran(size, 1, Bench.row(0x80, 0), Bench.row(0x81, 0), RET);
            BENCH.due("ran(2) of " + size, x.ran(2), size);
            BENCH.due("ran(3) of " + size, x.ran(3), size);
        }
    }

    private static void endsReturning0() {
        BENCH.says("1 it came to a ret, 0 it ended for another reason");
        BerkeleySieve x = ran(0, 1, Bench.row(6, 5));
        BENCH.due("ran(0) of a ret", x.ran(0), 5);
        x.clear();
        x.put(0x30, 0, 0, 0);
        x.put(6, 0, 0, 5);
        BENCH.due("run() on none", x.run(), 0);
        BENCH.due("ran(0) without the byte", x.ran(0), 0);
        x.clear();
        x.put(6, 0, 0, 0);
        BENCH.due("run() that returns 0", x.run(), 1);
        BENCH.due("ran(0) of ret #0", x.ran(0), 0);
        x.clear();
        x.put(0x3c, 0, 0, 0);
        x.put(6, 0, 0, 5);
        BENCH.due("run() that divides by 0", x.run(), 0);
        BENCH.due("ran(0) of it", x.ran(0), 0);
    }

    private static void sumsWrap() {
        BENCH.says("All numbers have 32 bits without sign, sums and products wrap");
        calculates(0x04, -2, 1, -1);
        calculates(0x04, -1, 1, 0);
        calculates(0x04, -1, -1, -2);
        calculates(0x04, TOP, TOP, 0);
        calculates(0x04, BELOW_TOP, 1, TOP);
        calculates(0x14, 1, 1, 0);
        calculates(0x14, 0, 1, -1);
        calculates(0x14, 0, -1, 1);
        calculates(0x14, TOP, 1, BELOW_TOP);
        calculates(0x14, BELOW_TOP, -1, TOP);
    }

    private static void productsWrap() {
        BENCH.says("All numbers have 32 bits without sign, sums and products wrap");
        calculates(0x24, 65535, 65537, -1);
        calculates(0x24, 65536, 65536, 0);
        calculates(0x24, 65536, 65537, 65536);
        calculates(0x24, -1, -1, 1);
        calculates(0x24, -1, 2, -2);
        calculates(0x24, TOP, 2, 0);
        calculates(0x24, BELOW_TOP, 2, -2);
        calculates(0x24, 5, 0, 0);
    }

    private static void bitsOfNumbers() {
        BENCH.says("add .. xor: A is A and K (or X), that done to them");
        calculates(0x44, TOP, BELOW_TOP, -1);
        calculates(0x44, 0x0f0f, 0x00ff, 0x0fff);
        calculates(0x44, 0, 0, 0);
        calculates(0x54, TOP, BELOW_TOP, 0);
        calculates(0x54, 0x0f0f, 0x00ff, 0x000f);
        calculates(0x54, -1, -1, -1);
        calculates(0xa4, TOP, -1, BELOW_TOP);
        calculates(0xa4, 0x0f0f, 0x00ff, 0x0ff0);
        calculates(0xa4, -1, -1, 0);
    }

    private static void negation() {
        BENCH.says("neg: A is 0 less A");
        for (int[] pair : new int[][] {{0, 0}, {1, -1}, {-1, 1}, {TOP, TOP}, {BELOW_TOP, TOP + 1}, {TOP + 1, BELOW_TOP}}) {
            leaves(pair[0], 9, Bench.row(0x84, 3), pair[1]);
        }
    }

    private static void divisions() {
        BENCH.says("All numbers have 32 bits without sign");
        calculates(0x34, -1, 1, -1);
        calculates(0x34, -1, 2, BELOW_TOP);
        calculates(0x34, -1, TOP, 1);
        calculates(0x34, -1, -1, 1);
        calculates(0x34, -2, -1, 0);
        calculates(0x34, TOP, -1, 0);
        calculates(0x34, TOP, 2, 0x40000000);
        calculates(0x94, -1, 1, 0);
        calculates(0x94, -1, 2, 1);
        calculates(0x94, -1, TOP, BELOW_TOP);
        calculates(0x94, -1, -1, 0);
        calculates(0x94, -2, -1, -2);
        calculates(0x94, TOP, -1, TOP);
        calculates(0x94, TOP, 3, 2);
    }

    private static void zeroDivisors() {
        BENCH.says("div and mod by 0: the RUN ends, returning 0");
        for (int code : new int[] {0x3c, 0x9c}) {
            BerkeleySieve x = ran(0, 0, Bench.row(0, 7), Bench.row(1, 0), Bench.row(code, 1), RET);
            BENCH.due("ran(0)", x.ran(0), 0);
            BENCH.due("ran(1)", x.ran(1), 3);
            BENCH.due("ran(2)", x.ran(2), 7);
            BENCH.due("ran(3)", x.ran(3), 0);
            BENCH.due("ran(4)", x.ran(4), 2);
            leaves(7, 1, Bench.row(code, 0), code == 0x3c ? 7 : 0);
            leaves(0, -1, Bench.row(code, 0), 0);
        }
    }

    private static void shifts() {
        BENCH.says("lsh, rsh by 32 or more: 0");
        int[][] due = {{0, -1, -1}, {1, -2, BELOW_TOP}, {31, TOP, 1}};
        for (int[] row : due) {
            calculates(0x64, -1, row[0], row[1]);
            calculates(0x74, -1, row[0], row[2]);
        }
        for (int by : new int[] {32, 33, 63, 64, 65, 256, BELOW_TOP, TOP, -1, -32}) {
            leaves(-1, by, Bench.row(0x6c, 1), 0);
            leaves(-1, by, Bench.row(0x7c, 1), 0);
        }
    }

    private static void branches(int code, int a, int other, boolean yes) {
        int[][] withNumber = {Bench.row(0, a), Bench.row(1, 0), Bench.row(code, 1, 0, other), Bench.row(6, 2), Bench.row(6, 1)};
        int[][] withX = {Bench.row(0, a), Bench.row(1, other), Bench.row(code + 8, 1, 0, 0), Bench.row(6, 2), Bench.row(6, 1)};
        for (int[][] rows : new int[][][] {withNumber, withX}) {
            BerkeleySieve x = ran(0, 1, rows);
            BENCH.due("ran(0) of " + Bench.numbers(x), x.ran(0), yes ? 1 : 2);
            BENCH.due("ran(4) of " + Bench.numbers(x), x.ran(4), yes ? 4 : 3);
            BENCH.due("ran(2) of " + Bench.numbers(x), x.ran(2), a);
        }
    }

    private static void comparisons() {
        BENCH.says("whether A is K (or X), is above it, isn't below it");
        int[] numbers = {0, 1, 2, BELOW_TOP - 1, BELOW_TOP, TOP, TOP + 1, -2, -1};
        // They stand in their order, so that their places tell what is above.
        for (int a = 0; a < numbers.length; a++) {
            for (int b = 0; b < numbers.length; b++) {
                branches(0x15, numbers[a], numbers[b], a == b);
                branches(0x25, numbers[a], numbers[b], a > b);
                branches(0x35, numbers[a], numbers[b], a >= b);
            }
        }
    }

    private static void commonBits() {
        BENCH.says("has a bit with it: JT further on, else JF");
        branches(0x45, 0, 0, false);
        branches(0x45, 0, -1, false);
        branches(0x45, -1, 0, false);
        branches(0x45, 1, 1, true);
        branches(0x45, 1, 2, false);
        branches(0x45, 1, -2, false);
        branches(0x45, TOP, TOP, true);
        branches(0x45, TOP, BELOW_TOP, false);
        branches(0x45, TOP, -1, true);
    }

    private static void wordsAndMoves() {
        BENCH.says("st, stx: M[K] is A, X");
        for (int word : new int[] {0, 1, 14, 15}) {
            for (int number : new int[] {0, 1, BELOW_TOP, TOP, -1}) {
                int[] a = Bench.row(0, number);
                int[] other = Bench.row(1, 5);
                int[] ret = Bench.row(0x16, 0);
                BerkeleySieve x = ran(0, 1, a, other, Bench.row(2, word), Bench.row(0, 6), Bench.row(0x60, word), ret);
                BENCH.due("ran(0) of ld M[" + word + "]", x.ran(0), number);
                BENCH.due("ran(" + (10 + word) + ")", x.ran(10 + word), number);
                BENCH.due("ran(" + (10 + (word ^ 1)) + ")", x.ran(10 + (word ^ 1)), 0);
                x = ran(0, 1, a, Bench.row(7, 0), Bench.row(3, word), Bench.row(1, 6), Bench.row(0x61, word), ret);
                BENCH.due("ran(3) of ldx M[" + word + "]", x.ran(3), number);
                BENCH.due("ran(" + (10 + word) + ") of stx", x.ran(10 + word), number);
                BENCH.says("tax: X is A; txa: A is X");
                x = ran(0, 1, a, other, Bench.row(7, 0), ret);
                BENCH.due("ran(3) of tax", x.ran(3), number);
                BENCH.due("ran(2) of tax", x.ran(2), number);
                x = ran(0, 1, Bench.row(0, 5), Bench.row(1, number), Bench.row(0x87, 0), ret);
                BENCH.due("ran(2) of txa", x.ran(2), number);
                BENCH.due("ran(3) of txa", x.ran(3), number);
            }
        }
    }

    private static void returns() {
        BENCH.says("ret: the RUN ends, returning K, or A");
        for (int number : new int[] {0, 1, BELOW_TOP, TOP, -1}) {
            BerkeleySieve x = ran(0, 1, Bench.row(0, 3), Bench.row(6, number), Bench.row(6, 4));
            BENCH.due("ran(0) of ret #k", x.ran(0), number);
            BENCH.due("ran(2) of ret #k", x.ran(2), 3);
            BENCH.due("ran(4) of ret #k", x.ran(4), 1);
            x = ran(0, 1, Bench.row(0, number), Bench.row(0x16, 3), Bench.row(6, 4));
            BENCH.due("ran(0) of ret a", x.ran(0), number);
            BENCH.due("ran(1) of ret a", x.ran(1), 2);
        }
    }

    private static void notValid() {
        BENCH.says("NONE, and nothing is run, if the PROGRAM isn't VALID");
        int[][][] faulty = {{}, {Bench.row(0xff, 0), RET}, {Bench.row(5, 1), RET}, {Bench.row(2, 16), RET}, {Bench.row(0x34, 0), RET},
            {Bench.row(0x60, 0), RET}, {RET, Bench.row(0, 8)}};
        for (int[][] rows : faulty) {
            BerkeleySieve x = new BerkeleySieve();
            x.put(1, 0, 0, 4);
            x.put(3, 0, 0, 15);
            x.put(0, 0, 0, 3);
            x.put(6, 0, 0, 5);
            BENCH.due("run() of a valid one", x.run(), 1);
            x.clear();
            for (int[] row : rows) {
                x.put(row[0], row[1], row[2], row[3]);
            }
            BENCH.due("run() of " + Bench.numbers(x), x.run(), -1);
            int[] due = {5, 4, 3, 4, 3};
            for (int what = 0; what < 26; what++) {
                BENCH.due("ran(" + what + ") stays", x.ran(what), what < 5 ? due[what] : what == 25 ? 4 : 0);
            }
            BerkeleySieve fresh = Bench.program(rows);
            BENCH.due("run() of a new one", fresh.run(), -1);
            for (int what = 0; what < 26; what++) {
                BENCH.due("ran(" + what + ") of a new one", fresh.ran(what), 0);
            }
        }
    }

    private static void ranOthers() {
        BENCH.says("0 for others, or ahead of any");
        BerkeleySieve x = new BerkeleySieve();
        for (int what = -1; what < 27; what++) {
            BENCH.due("ran(" + what + ") ahead of any", x.ran(what), 0);
        }
        x.put(1, 0, 0, 51);
        x.put(0, 0, 0, 50);
        for (int word = 0; word < 16; word++) {
            x.put(2, 0, 0, word);
            x.put(4, 0, 0, 1);
        }
        x.put(6, 0, 0, 52);
        x.run();
        int[] due = {52, 35, 66, 51, 34};
        for (int what = 0; what < 5; what++) {
            BENCH.due("ran(" + what + ")", x.ran(what), due[what]);
        }
        for (int what = 10; what < 26; what++) {
            BENCH.due("ran(" + what + ")", x.ran(what), 40 + what);
        }
        for (int what : new int[] {-1, -2, 5, 6, 7, 8, 9, 26, 27, 41, 256, TOP, BELOW_TOP}) {
            BENCH.due("ran(" + what + ")", x.ran(what), 0);
        }
    }

    private static void latestRun() {
        BENCH.says("Of the latest run() that wasn't NONE");
        BerkeleySieve x = Bench.program(Bench.row(0, 3), Bench.row(6, 5));
        x.run();
        x.clear();
        x.run();
        BENCH.due("ran(0) behind a refused run", x.ran(0), 5);
        x.put(0x30, 0, 0, 0);
        x.put(6, 0, 0, 9);
        BENCH.due("run() that ends early", x.run(), 0);
        BENCH.due("ran(0) behind it", x.ran(0), 0);
        BENCH.due("ran(1) behind it", x.ran(1), 1);
        BENCH.due("ran(2) behind it", x.ran(2), 0);
        Bench.packet(x, 4);
        BENCH.due("ran(1) behind packet()", x.ran(1), 1);
        BENCH.due("run() that comes to a ret", x.run(), 1);
        BENCH.due("ran(0) behind that", x.ran(0), 9);
        BENCH.due("ran(2) behind that", x.ran(2), 4);
    }
}
