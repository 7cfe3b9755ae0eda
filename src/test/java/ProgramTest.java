/** Promises 4, 5, 9, 10 and 11: put, clear, bad, why, insn. */
public final class ProgramTest {
    private static final Bench BENCH = new Bench("ProgramTest");
    private static final String CODES = " 00 20 28 30 40 48 50 60 80 01 61 81 b1 02 03"
            + " 04 14 24 34 44 54 64 74 94 a4 0c 1c 2c 3c 4c 5c 6c 7c 9c ac 84"
            + " 05 15 25 35 45 1d 2d 3d 4d 06 16 07 87 ";

    public static void main(String[] args) {
        putting();
        clearing();
        looking();
        codes();
        faults();
        unwritten();
        order();
        BENCH.finish();
    }

    private static void putting() {
        BerkeleySieve x = new BerkeleySieve();
        BENCH.due("put(65535, 255, 255, -1)", x.put(65535, 255, 255, -1), 1);
        BENCH.due("put(65536, ..)", x.put(65536, 0, 0, 0), -1);
        BENCH.due("put(-1, ..)", x.put(-1, 0, 0, 0), -1);
        BENCH.due("put(0, 256, ..)", x.put(0, 256, 0, 0), -1);
        BENCH.due("put(0, -1, ..)", x.put(0, -1, 0, 0), -1);
        BENCH.due("put(0, 0, 256, ..)", x.put(0, 0, 256, 0), -1);
        BENCH.due("put(0, 0, -1, ..)", x.put(0, 0, -1, 0), -1);
        for (int n = 2; n <= 200; n++) {
            BENCH.due("put number " + n, x.put(0, 0, 0, n), n);
        }
        BENCH.due("put number 201", x.put(6, 0, 0, 0), -1);
        BENCH.due("count(0)", x.count(0), 200);
        BENCH.due("insn(199, 3)", x.insn(199, 3), 200);
    }

    private static void clearing() {
        BerkeleySieve x = new BerkeleySieve();
        BENCH.due("clear() of none", x.clear(), 0);
        x.put(6, 0, 0, 1);
        x.put(6, 0, 0, 2);
        BENCH.due("clear()", x.clear(), 2);
        BENCH.due("clear() again", x.clear(), 0);
        BENCH.due("insn(0, 0)", x.insn(0, 0), -1);
        BENCH.due("put", x.put(6, 0, 0, 3), 1);
        BENCH.due("insn(0, 3)", x.insn(0, 3), 3);
    }

    private static void looking() {
        BerkeleySieve x = new BerkeleySieve();
        x.put(21, 3, 4, -5);
        BENCH.due("insn(0, 0)", x.insn(0, 0), 21);
        BENCH.due("insn(0, 1)", x.insn(0, 1), 3);
        BENCH.due("insn(0, 2)", x.insn(0, 2), 4);
        BENCH.due("insn(0, 3)", x.insn(0, 3), -5);
        BENCH.due("insn(0, 4)", x.insn(0, 4), -1);
        BENCH.due("insn(0, -1)", x.insn(0, -1), -1);
        for (int i : new int[] {-1, 1, 200, Integer.MAX_VALUE, Integer.MIN_VALUE}) {
            BENCH.due("insn(" + i + ", 0)", x.insn(i, 0), -1);
            BENCH.due("insn(" + i + ", 1)", x.insn(i, 1), -1);
            BENCH.due("insn(" + i + ", 2)", x.insn(i, 2), -1);
            BENCH.due("insn(" + i + ", 3)", x.insn(i, 3), 0);
            BENCH.due("insn(" + i + ", 4)", x.insn(i, 4), -1);
        }
    }

    private static void codes() {
        for (int code = 0; code < 1024; code++) {
            BerkeleySieve x = new BerkeleySieve();
            for (int word = 0; word < 2; word++) {
                x.put(2, 0, 0, word);
            }
            x.put(code, 0, 0, 1);
            x.put(6, 0, 0, 0);
            x.put(6, 0, 0, 0);
            boolean known = CODES.contains(String.format(" %02x ", code));
            BENCH.due("why() of code " + code, x.why(), known ? 0 : 1);
            BENCH.due("bad() of code " + code, x.bad(), known ? -1 : 2);
        }
    }

    /** The program of the rows (code, jt, jf, k) has this fault at this instruction. */
    private static void judged(int place, int reason, int[]... rows) {
        BerkeleySieve x = new BerkeleySieve();
        for (int[] row : rows) {
            x.put(row[0], row[1], row[2], row[3]);
        }
        BENCH.due("bad() of " + Bench.numbers(x), x.bad(), place);
        BENCH.due("why() of " + Bench.numbers(x), x.why(), reason);
        if (reason != 0) {
            BENCH.due("run() of " + Bench.numbers(x), x.run(), -1);
            BENCH.due("plainer() of " + Bench.numbers(x), x.plainer(), -1);
        }
    }

    private static int[] row(int code, int jt, int jf, int k) {
        return new int[] {code, jt, jf, k};
    }

    private static int[] row(int code, int k) {
        return row(code, 0, 0, k);
    }

    private static void faults() {
        int[] ret = row(6, 0);
        judged(-1, 0, ret);
        judged(-1, 0, row(0x16, 255, 255, -1));
        judged(0, 2, row(5, 0));
        judged(-1, 0, row(5, 0), ret);
        judged(0, 2, row(5, 1), ret);
        judged(0, 2, row(5, -1), ret);
        judged(0, 2, row(5, -2), ret);
        judged(0, 2, row(5, Integer.MAX_VALUE), ret);
        judged(-1, 0, row(5, 255, 255, 0), ret);
        judged(0, 2, row(0x15, 1, 0, 0), ret);
        judged(0, 2, row(0x15, 0, 1, 0), ret);
        judged(-1, 0, row(0x1d, 0, 1, -1), ret, ret);
        judged(0, 2, row(0x4d, 2, 0, 0), ret, ret);
        for (int code : new int[] {0x60, 0x61, 0x02, 0x03}) {
            judged(0, 3, row(code, 16), ret);
            judged(0, 3, row(code, -1), ret);
        }
        judged(-1, 0, row(0x02, 15), row(0x60, 15), row(0x61, 15), row(0x03, 0), ret);
        for (int code : new int[] {0x34, 0x94}) {
            judged(0, 4, row(code, 0), ret);
            judged(-1, 0, row(code, 1), ret);
            judged(-1, 0, row(code + 8, 0), ret);
        }
        for (int code : new int[] {0x64, 0x74}) {
            judged(-1, 0, row(code, 31), ret);
            judged(0, 4, row(code, 32), ret);
            judged(0, 4, row(code, -1), ret);
            judged(-1, 0, row(code + 8, 32), ret);
        }
        judged(1, 6, ret, row(0, 0));
        judged(1, 6, ret, row(0x87, 0));
    }

    private static void unwritten() {
        int[] ret = row(6, 0);
        judged(0, 5, row(0x60, 0), ret);
        judged(0, 5, row(0x61, 15), ret);
        judged(1, 5, row(0x02, 4), row(0x61, 5), ret);
        judged(-1, 0, row(0x03, 5), row(0x61, 5), ret);
        // One of the two ways passes by the st.
        judged(2, 5, row(0x15, 0, 1, 0), row(0x02, 3), row(0x60, 3), ret);
        judged(2, 5, row(0x15, 1, 0, 0), row(0x02, 3), row(0x60, 3), ret);
        // Both ways go through one.
        judged(-1, 0, row(0x15, 0, 2, 0), row(0x02, 3), row(5, 1), row(0x03, 3), row(0x60, 3), ret);
        // No way leads there, nor counts from there.
        judged(-1, 0, ret, row(0x60, 3), ret);
        judged(-1, 0, row(0x02, 1), row(5, 1), row(5, 0), row(0x60, 1), ret);
        judged(3, 5, row(5, 1), row(0x02, 1), row(0x02, 2), row(0x60, 1), ret);
        judged(-1, 0, row(5, 2), row(0x02, 1), row(0x60, 0), ret);
    }

    private static void order() {
        int[] ret = row(6, 0);
        judged(1, 1, ret, row(255, 0), row(0x34, 0));
        judged(1, 4, ret, row(0x34, 0), row(255, 0));
        // Of one instruction the least number: the last one is no ret, too.
        judged(0, 1, row(255, 0));
        judged(0, 2, row(0x15, 0));
        judged(0, 3, row(0x60, 16));
        judged(0, 4, row(0x64, 32));
        judged(0, 5, row(0x60, 0));
        judged(0, 6, row(0x07, 0));
    }
}
