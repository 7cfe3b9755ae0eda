/**
 * The edges that terms 1 and 2 and promises 4, 5, 9, 10 and 11 name, a test for each sentence: the last
 * case that is allowed and the first one that isn't, on both sides where there are two.
 */
public final class ProgramEdgesTest {
    private static final Bench BENCH = new Bench("ProgramEdgesTest");
    private static final int LOWEST = Integer.MIN_VALUE;
    private static final int HIGHEST = Integer.MAX_VALUE;
    private static final int[] RET = Bench.row(6, 0);
    private static final int[] BRANCHES = {0x15, 0x25, 0x35, 0x45, 0x1d, 0x2d, 0x3d, 0x4d};
    private static final int[] BUT_JUMPS_AND_RETS = {0x00, 0x20, 0x28, 0x30, 0x40, 0x48, 0x50, 0x60, 0x80, 0x01, 0x61, 0x81, 0xb1,
        0x02, 0x03, 0x04, 0x14, 0x24, 0x34, 0x44, 0x54, 0x64, 0x74, 0x94, 0xa4, 0x0c, 0x1c, 0x2c, 0x3c, 0x4c, 0x5c, 0x6c, 0x7c,
        0x9c, 0xac, 0x84, 0x07, 0x87};

    public static void main(String[] args) {
        whatCanBe();
        atMost200();
        numberedFrom0();
        noInstructions();
        codesThatAreNone();
        jaToNoInstruction();
        branchToNoInstruction();
        jumpsInAFullProgram();
        wordsAbove15();
        divisorsOf0();
        shiftsAbove31();
        unwrittenWords();
        noWayLeads();
        lastIsNoRet();
        theFirstOne();
        theLeastNumber();
        unusedDontMatter();
        clearOfNone();
        insnOthers();
        BENCH.finish();
    }

    private static void judged(int place, int reason, int[]... rows) {
        BerkeleySieve x = Bench.program(rows);
        String shown = Bench.numbers(() -> Bench.program(rows));
        BENCH.due("bad() of " + shown, x.bad(), place);
        BENCH.due("why() of " + shown, x.why(), reason);
    }

    private static void putOf(int code, int jt, int jf, int due) {
        BerkeleySieve x = new BerkeleySieve();
        x.put(7, 0, 0, 0);
        BENCH.due("put(" + code + ", " + jt + ", " + jf + ", 0)", x.put(code, jt, jf, 0), due);
        BENCH.due("count(0) behind it", x.count(0), due < 0 ? 1 : 2);
        BENCH.due("insn(1, 0) behind it", x.insn(1, 0), due < 0 ? -1 : code);
        BENCH.due("insn(1, 1) behind it", x.insn(1, 1), due < 0 ? -1 : jt);
        BENCH.due("insn(1, 2) behind it", x.insn(1, 2), due < 0 ? -1 : jf);
    }

    private static void whatCanBe() {
        BENCH.says("INSTRUCTIONS have a CODE (0 .. 65535), JT and JF (0 .. 255), K (32 bits)");
        for (int code : new int[] {0, 1, 65534, 65535}) {
            putOf(code, 0, 0, 2);
        }
        for (int code : new int[] {-1, 65536, LOWEST, HIGHEST}) {
            putOf(code, 0, 0, -1);
        }
        for (int way : new int[] {0, 1, 254, 255}) {
            putOf(0x15, way, 0, 2);
            putOf(0x15, 0, way, 2);
        }
        for (int way : new int[] {-1, 256, LOWEST, HIGHEST}) {
            putOf(0x15, way, 0, -1);
            putOf(0x15, 0, way, -1);
        }
        for (int k : new int[] {0, 1, -1, LOWEST, HIGHEST}) {
            BerkeleySieve x = new BerkeleySieve();
            BENCH.due("put(0, 0, 0, " + k + ")", x.put(0, 0, 0, k), 1);
            BENCH.due("insn(0, 3)", x.insn(0, 3), k);
        }
    }

    private static BerkeleySieve filled(int count) {
        BerkeleySieve x = new BerkeleySieve();
        for (int n = 1; n <= count; n++) {
            BENCH.due("put number " + n, x.put(6, 0, 0, n), n);
        }
        return x;
    }

    private static void atMost200() {
        BENCH.says("NONE if CODE, JT or JF can't be, or it has 200");
        BerkeleySieve x = filled(199);
        BENCH.due("put number 200", x.put(6, 0, 0, 200), 200);
        BENCH.due("put number 201", x.put(6, 0, 0, 201), -1);
        BENCH.due("put number 201 again", x.put(6, 0, 0, 201), -1);
        BENCH.due("count(0)", x.count(0), 200);
        BENCH.due("insn(199, 3)", x.insn(199, 3), 200);
        BENCH.due("insn(200, 3)", x.insn(200, 3), 0);
        BENCH.due("insn(200, 0)", x.insn(200, 0), -1);
        BENCH.due("bad() of 200", x.bad(), -1);
        BENCH.due("why() of 200", x.why(), 0);
        BENCH.due("clear() of 200", x.clear(), 200);
        BENCH.due("put behind clear()", x.put(6, 0, 0, 0), 1);
    }

    private static void numberedFrom0() {
        BENCH.says("a PROGRAM has at most 200, numbered from 0");
        BerkeleySieve x = Bench.program(Bench.row(0, 10), Bench.row(6, 11));
        BENCH.due("insn(-1, 3)", x.insn(-1, 3), 0);
        BENCH.due("insn(0, 3)", x.insn(0, 3), 10);
        BENCH.due("insn(1, 3)", x.insn(1, 3), 11);
        BENCH.due("insn(2, 3)", x.insn(2, 3), 0);
    }

    private static void noInstructions() {
        BENCH.says("A PROGRAM is VALID, if it has instructions, and none has a FAULT");
        BerkeleySieve x = new BerkeleySieve();
        BENCH.due("run() of none", x.run(), -1);
        BENCH.due("plainer() of none", x.plainer(), -1);
        BENCH.says("NONE if there is none (also of a PROGRAM without INSTRUCTIONS)");
        BENCH.due("bad() of none", x.bad(), -1);
        x.put(6, 0, 0, 0);
        BENCH.due("bad() of a ret", x.bad(), -1);
        BENCH.says("0 if the PROGRAM is VALID, 7 if it has no INSTRUCTIONS");
        BENCH.due("why() of a ret", x.why(), 0);
        BENCH.due("run() of a ret", x.run(), 1);
        BENCH.due("plainer() of a ret", x.plainer(), 0);
        x.clear();
        BENCH.due("why() behind clear()", x.why(), 7);
        BENCH.due("bad() behind clear()", x.bad(), -1);
        x.assemble();
        BENCH.due("why() behind assemble() of none", x.why(), 7);
    }

    /** Every CODE there can be, some of them with each object. */
    private static void codesThatAreNone() {
        BENCH.says("1 its CODE is none of these");
        boolean[] known = new boolean[65536];
        for (int[] codes : new int[][] {BUT_JUMPS_AND_RETS, BRANCHES, {0x05, 0x06, 0x16}}) {
            for (int code : codes) {
                known[code] = true;
            }
        }
        BerkeleySieve x = new BerkeleySieve();
        for (int code = 0; code < 65536; code++) {
            x = code % 64 == 0 ? new BerkeleySieve() : x;
            x.clear();
            x.put(2, 0, 0, 1);
            x.put(code, 0, 0, 1);
            x.put(6, 0, 0, 0);
            x.put(6, 0, 0, 0);
            int why = x.why();
            BENCH.due("why() of code " + code, why, known[code] ? 0 : 1);
            BENCH.due("bad() of code " + code, why == 0 ? 1 : x.bad(), 1);
        }
    }

    private static void jaToNoInstruction() {
        BENCH.says("ja goes to the one behind it, K further on");
        judged(0, 2, Bench.row(5, 0));
        judged(-1, 0, Bench.row(5, 0), RET);
        judged(0, 2, Bench.row(5, 1), RET);
        judged(-1, 0, Bench.row(5, 1), RET, RET);
        judged(0, 2, Bench.row(5, 2), RET, RET);
        judged(-1, 0, Bench.row(7, 0), Bench.row(5, 0), RET);
        judged(1, 2, Bench.row(7, 0), Bench.row(5, 1), RET);
        // Numbers with the highest bit, and those that would come to an instruction if they wrapped.
        for (int k : new int[] {HIGHEST, LOWEST, -1, -2, -3, 65536, 256}) {
            judged(1, 2, Bench.row(7, 0), Bench.row(5, k), RET);
        }
    }

    private static void branchToNoInstruction() {
        BENCH.says("the others JT or JF further on");
        for (int code : BRANCHES) {
            judged(0, 2, Bench.row(code, 0, 0, 0));
            judged(-1, 0, Bench.row(code, 0, 0, 0), RET);
            judged(0, 2, Bench.row(code, 1, 0, 0), RET);
            judged(0, 2, Bench.row(code, 0, 1, 0), RET);
            judged(-1, 0, Bench.row(code, 1, 0, 0), RET, RET);
            judged(-1, 0, Bench.row(code, 0, 1, 0), RET, RET);
            judged(-1, 0, Bench.row(code, 1, 1, 0), RET, RET);
            judged(0, 2, Bench.row(code, 2, 1, 0), RET, RET);
            judged(0, 2, Bench.row(code, 1, 2, 0), RET, RET);
            judged(1, 2, RET, Bench.row(code, 255, 0, 0), RET);
            judged(1, 2, RET, Bench.row(code, 0, 255, 0), RET);
        }
    }

    private static void jumpsInAFullProgram() {
        BENCH.says("2 a jump to no instruction");
        int[][] first = {Bench.row(5, 198), Bench.row(5, 199), Bench.row(0x15, 198, 0, 0), Bench.row(0x15, 199, 0, 0),
            Bench.row(0x15, 0, 198, 0), Bench.row(0x15, 0, 199, 0)};
        for (int n = 0; n < first.length; n++) {
            int[][] rows = new int[200][];
            java.util.Arrays.fill(rows, RET);
            rows[0] = first[n];
            judged(n % 2 == 0 ? -1 : 0, n % 2 == 0 ? 0 : 2, rows);
        }
    }

    private static void wordsAbove15() {
        BENCH.says("3 M[k] with K above 15");
        for (int code : new int[] {0x02, 0x03, 0x60, 0x61}) {
            int[] first = Bench.row(2, 15);
            judged(-1, 0, Bench.row(2, 0), Bench.row(code, 0), RET);
            judged(-1, 0, first, Bench.row(code, 15), RET);
            for (int k : new int[] {16, 17, 31, 32, 47, 256, HIGHEST, LOWEST, -1}) {
                judged(1, 3, first, Bench.row(code, k), RET);
            }
        }
    }

    private static void divisorsOf0() {
        BENCH.says("4 div or mod with #k, K being 0");
        for (int code : new int[] {0x34, 0x94}) {
            judged(0, 4, Bench.row(code, 0), RET);
            for (int k : new int[] {1, 2, -1, LOWEST, HIGHEST, 256, 65536}) {
                judged(-1, 0, Bench.row(code, k), RET);
            }
        }
        for (int code : new int[] {0x04, 0x14, 0x24, 0x44, 0x54, 0x64, 0x74, 0xa4, 0x3c, 0x9c}) {
            judged(-1, 0, Bench.row(code, 0), RET);
        }
    }

    private static void shiftsAbove31() {
        BENCH.says("lsh or rsh with #k, K above 31");
        for (int code : new int[] {0x64, 0x74}) {
            judged(-1, 0, Bench.row(code, 0), RET);
            judged(-1, 0, Bench.row(code, 31), RET);
            for (int k : new int[] {32, 33, 63, 64, 256, HIGHEST, LOWEST, -1}) {
                judged(0, 4, Bench.row(code, k), RET);
                judged(-1, 0, Bench.row(code + 8, k), RET);
            }
        }
        for (int code : new int[] {0x04, 0x14, 0x24, 0x34, 0x44, 0x54, 0x94, 0xa4}) {
            judged(-1, 0, Bench.row(code, 32), RET);
        }
    }

    private static void unwrittenWords() {
        BENCH.says("there is a way from instruction 0 to here (each jump both ways) on which it was not written");
        for (int read : new int[] {0x60, 0x61}) {
            for (int write : new int[] {0x02, 0x03}) {
                for (int word : new int[] {0, 1, 14, 15}) {
                    int other = word ^ 1;
                    judged(0, 5, Bench.row(read, word), RET);
                    judged(-1, 0, Bench.row(write, word), Bench.row(read, word), RET);
                    judged(1, 5, Bench.row(write, other), Bench.row(read, word), RET);
                    judged(0, 5, Bench.row(read, word), Bench.row(write, word), RET);
                    // Over the write, on the one way or on the other.
                    judged(2, 5, Bench.row(0x15, 0, 1, 0), Bench.row(write, word), Bench.row(read, word), RET);
                    judged(2, 5, Bench.row(0x15, 1, 0, 0), Bench.row(write, word), Bench.row(read, word), RET);
                    judged(2, 5, Bench.row(5, 1), Bench.row(write, word), Bench.row(read, word), RET);
                    // Each way has a write, or ends.
                    judged(-1, 0, Bench.row(0x2d, 0, 2, 0), Bench.row(write, word), Bench.row(5, 1), Bench.row(write, word),
                            Bench.row(read, word), RET);
                    judged(-1, 0, Bench.row(0x2d, 1, 0, 0), RET, Bench.row(write, word), Bench.row(read, word), RET);
                    judged(-1, 0, Bench.row(write, word), Bench.row(0x2d, 1, 0, 0), Bench.row(7, 0), Bench.row(read, word), RET);
                }
            }
        }
    }

    private static void noWayLeads() {
        BENCH.says("of instructions to which no way leads none has this one");
        for (int read : new int[] {0x60, 0x61}) {
            judged(-1, 0, RET, Bench.row(read, 0), RET);
            judged(-1, 0, Bench.row(0x16, 0), Bench.row(read, 15), RET);
            judged(-1, 0, Bench.row(5, 1), Bench.row(read, 0), RET);
            judged(-1, 0, Bench.row(0x15, 1, 1, 0), Bench.row(read, 0), RET);
            judged(1, 5, Bench.row(0x15, 0, 1, 0), Bench.row(read, 0), RET);
            // A way from where no way leads is none.
            judged(-1, 0, Bench.row(2, 3), Bench.row(5, 1), Bench.row(0x15, 0, 0, 0), Bench.row(read, 3), RET);
            judged(-1, 0, RET, Bench.row(0x15, 0, 0, 0), Bench.row(read, 3), RET);
            // The others they have.
            judged(1, 3, RET, Bench.row(read, 16), RET);
        }
        judged(1, 1, RET, Bench.row(0xff, 0), RET);
        judged(1, 2, RET, Bench.row(5, 1), RET);
        judged(1, 4, RET, Bench.row(0x34, 0), RET);
        judged(1, 6, RET, Bench.row(7, 0));
    }

    private static void lastIsNoRet() {
        BENCH.says("6 it is the last one and no ret");
        judged(-1, 0, Bench.row(6, 0));
        judged(-1, 0, Bench.row(0x16, 0));
        judged(-1, 0, Bench.row(7, 0), Bench.row(0x16, 0));
        for (int code : BUT_JUMPS_AND_RETS) {
            judged(1, 6, Bench.row(2, 1), Bench.row(code, 1));
            judged(-1, 0, Bench.row(2, 1), Bench.row(code, 1), RET);
        }
    }

    private static void theFirstOne() {
        BENCH.says("the FAULT is that of the first one that has one");
        int[][] faulty = {Bench.row(0xff, 0), Bench.row(5, 99), Bench.row(2, 16), Bench.row(0x34, 0), Bench.row(0x60, 7)};
        for (int first = 0; first < faulty.length; first++) {
            for (int second = 0; second < faulty.length; second++) {
                judged(0, first + 1, faulty[first], faulty[second], RET);
                judged(1, first + 1, Bench.row(7, 0), faulty[first], faulty[second], RET);
            }
            judged(0, first + 1, faulty[first], Bench.row(7, 0));
            judged(2, first + 1, Bench.row(7, 0), Bench.row(7, 0), faulty[first], RET);
        }
    }

    private static void theLeastNumber() {
        BENCH.says("of several of one the least number");
        judged(0, 1, Bench.row(0xff, 255, 255, 99));
        judged(0, 2, Bench.row(5, 99));
        judged(0, 2, Bench.row(0x15, 99, 0, 0));
        judged(0, 3, Bench.row(0x60, 16));
        judged(0, 3, Bench.row(0x61, 16), RET);
        judged(0, 3, Bench.row(2, 16));
        judged(0, 4, Bench.row(0x34, 0));
        judged(0, 4, Bench.row(0x64, 32));
        judged(0, 5, Bench.row(0x60, 15));
        judged(0, 6, Bench.row(0x00, 0));
    }

    private static void unusedDontMatter() {
        BENCH.says("(JT, JF, K that are not used don't matter.)");
        for (int code : BUT_JUMPS_AND_RETS) {
            judged(-1, 0, Bench.row(2, 1), Bench.row(code, 255, 255, 1), RET);
        }
        for (int code : new int[] {0x80, 0x81, 0x0c, 0x1c, 0x2c, 0x3c, 0x4c, 0x5c, 0x6c, 0x7c, 0x9c, 0xac, 0x84, 0x07, 0x87}) {
            judged(-1, 0, Bench.row(code, 255, 255, -1), RET);
            judged(-1, 0, Bench.row(code, 255, 255, 0), RET);
        }
        for (int code : BRANCHES) {
            judged(-1, 0, Bench.row(code, 0, 0, -1), RET);
            judged(-1, 0, Bench.row(code, 0, 0, 32), RET);
        }
        judged(-1, 0, Bench.row(5, 255, 255, 0), RET);
        judged(-1, 0, Bench.row(6, 255, 255, -1));
        judged(-1, 0, Bench.row(0x16, 255, 255, -1));
    }

    private static void clearOfNone() {
        BENCH.says("The PROGRAM has no INSTRUCTIONS: how many it had");
        BerkeleySieve x = new BerkeleySieve();
        BENCH.due("clear() of none", x.clear(), 0);
        BENCH.due("count(0)", x.count(0), 0);
        x.put(6, 0, 0, 0);
        BENCH.due("clear() of one", x.clear(), 1);
        BENCH.due("clear() again", x.clear(), 0);
        x.put(255, 0, 0, 0);
        x.put(255, 0, 0, 0);
        BENCH.due("clear() of two with faults", x.clear(), 2);
        BENCH.due("count(0) then", x.count(0), 0);
    }

    private static void insnOthers() {
        BENCH.says("NONE for others, or if there is none such (of 3: 0 then)");
        BerkeleySieve x = Bench.program(Bench.row(0x15, 7, 8, 9), Bench.row(0x25, 1, 2, -1));
        int[][] due = {{0x15, 7, 8, 9}, {0x25, 1, 2, -1}};
        for (int i = 0; i < 2; i++) {
            for (int what = 0; what < 4; what++) {
                BENCH.due("insn(" + i + ", " + what + ")", x.insn(i, what), due[i][what]);
            }
            for (int what : new int[] {-1, 4, 5, LOWEST, HIGHEST}) {
                BENCH.due("insn(" + i + ", " + what + ")", x.insn(i, what), -1);
            }
        }
        for (int i : new int[] {-1, 2, 199, 200, LOWEST, HIGHEST}) {
            for (int what : new int[] {-1, 0, 1, 2, 4, LOWEST, HIGHEST}) {
                BENCH.due("insn(" + i + ", " + what + ")", x.insn(i, what), -1);
            }
            BENCH.due("insn(" + i + ", 3)", x.insn(i, 3), 0);
        }
        BerkeleySieve none = new BerkeleySieve();
        BENCH.due("insn(0, 0) of none", none.insn(0, 0), -1);
        BENCH.due("insn(0, 3) of none", none.insn(0, 3), 0);
    }
}
