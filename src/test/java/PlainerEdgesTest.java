/**
 * The edges that term 6 and promise 15 name, a test for each sentence: the last case in which something is
 * done and the first one in which it isn't.
 */
public final class PlainerEdgesTest {
    private static final Bench BENCH = new Bench("PlainerEdgesTest");
    private static final String[] BRANCHES = {"jeq #1", "jgt #1", "jge #1", "jset #1", "jeq x", "jgt x", "jge x", "jset x"};

    public static void main(String[] args) {
        notValid();
        nothingToDo();
        waysToAJa();
        onlyToAJa();
        farthestWays();
        bothWays();
        jaToTheNext();
        noWayLeads();
        idleOnes();
        idleThatStay();
        idleJumpedTo();
        firstOfTwo();
        firstOfTwoStays();
        secondJumpedTo();
        jumpsOverWhatGoes();
        jumpsToWhatGoes();
        theFirstOfThese();
        theLeastInstruction();
        againAndAgain();
        unusedStay();
        fullPrograms();
        BENCH.finish();
    }

    private static void made(String text, int times, String due) {
        BerkeleySieve x = Bench.assembled(text.replace("; ", "\n"));
        BENCH.due("why() of " + text, x.why(), 0);
        BENCH.due("plainer() of " + text, x.plainer(), times);
        BENCH.due("program of " + text, Bench.listing(x), due);
        BENCH.due("plainer() once more of " + text, x.plainer(), 0);
        BENCH.due("why() then of " + text, x.why(), 0);
    }

    private static void stays(String text, String due) {
        made(text, 0, due);
    }

    private static void notValid() {
        BENCH.says("how many times something was done; NONE if it isn't VALID");
        int[] ja = Bench.row(5, 0);
        int[] ret = Bench.row(6, 0);
        int[][][] faulty = {{}, {ja, Bench.row(0xff, 0), ret}, {ja, Bench.row(5, 9), ret}, {ja, Bench.row(2, 16), ret},
            {ja, Bench.row(0x34, 0), ret}, {ja, Bench.row(0x60, 0), ret}, {ja, ret, Bench.row(0, 0)}};
        for (int[][] rows : faulty) {
            BerkeleySieve x = Bench.program(rows);
            String before = Bench.numbers(x);
            BENCH.due("plainer() of " + before, x.plainer(), -1);
            BENCH.due("which stays", Bench.numbers(x), before);
        }
        BerkeleySieve x = Bench.program(ja, ret);
        BENCH.due("plainer() of a valid one", x.plainer(), 1);
    }

    private static void nothingToDo() {
        BENCH.says("how many times something was done");
        stays("ret a", "ret a");
        stays("ret #0", "ret #0");
        stays("ld #1; ret a", "ld #1; ret a");
        stays("jeq #1,e; ret a; e: ret #1", "jeq #1,L2,L1; ret a; ret #1");
    }

    private static void waysToAJa() {
        BENCH.says("(a) a jump one of whose ways (K, or JT, else JF) leads to a ja: that way leads to where that leads");
        // What the ja jumps over is reached on another way, so that all else stays.
        for (String branch : BRANCHES) {
            made(branch + ",b,c; b: ja d; c: neg; ret a; d: ret #1", 2, branch + ",L3,L1; neg; ret a; ret #1");
            made(branch + ",c,b; b: ja d; c: neg; ret a; d: ret #1", 2, branch + ",L1,L3; neg; ret a; ret #1");
        }
        made("jeq #1,b; ja c; b: ret #1; c: ret a", 2, "jeq #1,L1,L2; ret #1; ret a");
        // Both ways, one after the other, each a time of its own.
        made("jeq #1,b,c; b: ja d; c: ja e; d: ret #1; e: ret a", 4, "jeq #1,L1,L2; ret #1; ret a");
        // The way of JF is led on twice, that of the first ja once; then three of them go.
        made("jeq #9,z; ja b; z: neg; b: ja c; y: ret #1; c: jeq #1,d; ret a; d: ret #2", 6,
                "jeq #9,L1,L2; neg; jeq #1,L4,L3; ret a; ret #2");
    }

    private static void onlyToAJa() {
        BENCH.says("leads to a ja");
        stays("jeq #1,b,c; b: jeq #2,c,d; c: ret a; d: ret #1", "jeq #1,L1,L2; jeq #2,L2,L3; ret a; ret #1");
        stays("jeq #1,b,c; b: ret #1; c: ret a", "jeq #1,L1,L2; ret #1; ret a");
    }

    /** 200 rows, all of them the same but for the first ones. */
    private static int[][] rows(int[] other, int[]... first) {
        int[][] rows = new int[200][];
        for (int i = 0; i < 200; i++) {
            rows[i] = i < first.length ? first[i] : other;
        }
        rows[199] = Bench.row(6, 9);
        return rows;
    }

    private static void farthestWays() {
        BENCH.says("(of JT, JF: only if it is at most 255 then)");
        // 200 instructions leave no room for a way of more than 198, so it can always be done.
        int[] neg = Bench.row(0x84, 0);
        int[] over = Bench.row(0x15, 2, 0, 0);
        BerkeleySieve x = Bench.program(rows(neg, Bench.row(0x15, 2, 0, 0), over, neg, Bench.row(5, 195)));
        BENCH.due("plainer() of a far JT", x.plainer(), 1);
        BENCH.due("JT", x.insn(0, 1), 198);
        BENCH.due("JF", x.insn(0, 2), 0);
        x = Bench.program(rows(neg, Bench.row(0x15, 0, 2, 0), over, neg, Bench.row(5, 195)));
        BENCH.due("plainer() of a far JF", x.plainer(), 1);
        BENCH.due("JT", x.insn(0, 1), 0);
        BENCH.due("JF", x.insn(0, 2), 198);
        BENCH.due("the ja stays", x.insn(3, 3), 195);
    }

    private static void bothWays() {
        BENCH.says("(b) a jeq .. jset whose ways both lead to one instruction becomes ja there (JT and JF 0)");
        for (String branch : BRANCHES) {
            made(branch + ",b,b; b: ret a", 2, "ret a");
            stays(branch + ",b,c; b: neg; c: ret a", branch + ",L1,L2; neg; ret a");
            stays(branch + ",c,b; b: neg; c: ret a", branch + ",L2,L1; neg; ret a");
            BerkeleySieve x = Bench.assembled("jeq #5,y\nneg\n" + branch + ",e,e\ny: ret #1\ne: ret a");
            BENCH.due("plainer() with " + branch, x.plainer(), 1);
            BENCH.due("program with " + branch, Bench.numbers(x), "15 2 0 5; 84 0 0 0; 5 0 0 1; 6 0 0 1; 16 0 0 0");
        }
    }

    private static void jaToTheNext() {
        BENCH.says("(c) a ja to the next one goes");
        made("ja e; e: ret a", 1, "ret a");
        made("neg; ja e; e: ret a", 1, "neg; ret a");
        made("jeq #1,b; neg; ja e; e: neg; b: ret a", 1, "jeq #1,L3,L1; neg; neg; ret a");
        stays("jeq #1,b; neg; ja e; b: neg; e: ret a", "jeq #1,L3,L1; neg; ja L4; neg; ret a");
    }

    private static void noWayLeads() {
        BENCH.says("(d) one to which no way leads goes");
        made("ret a; ret a", 1, "ret a");
        made("ret #1; neg; ret a", 2, "ret #1");
        // What went between makes it a ja to the next one.
        made("ja e; neg; e: ret a", 2, "ret a");
        made("ret a; jeq #1,e; neg; e: ret #1", 3, "ret a");
        made("jeq #1,e,f; neg; e: ret a; f: ret #1", 1, "jeq #1,L1,L2; ret a; ret #1");
        // One way is enough to stay, be it that of JT, of JF or from the one before.
        stays("jeq #1,e,f; e: neg; ret a; f: ret #1", "jeq #1,L1,L3; neg; ret a; ret #1");
        stays("jeq #1,f,e; e: neg; ret a; f: ret #1", "jeq #1,L3,L1; neg; ret a; ret #1");
        // Instruction 0 has always one.
        stays("ret a", "ret a");
        stays("neg; ret a", "neg; ret a");
    }

    private static void idleOnes() {
        BENCH.says("(e) add, sub, or, xor, lsh, rsh with #0, mul, div with #1 go");
        for (String gone : new String[] {"add #0", "sub #0", "or #0", "xor #0", "lsh #0", "rsh #0", "mul #1", "div #1"}) {
            made(gone + "; ret a", 1, "ret a");
            made("neg; " + gone + "; " + gone + "; tax; ret a", 2, "neg; tax; ret a");
        }
    }

    private static void idleThatStay() {
        BENCH.says("add, sub, or, xor, lsh, rsh with #0, mul, div with #1");
        for (String name : new String[] {"add", "sub", "or", "xor", "lsh", "rsh"}) {
            stays(name + " #1; ret a", name + " #1; ret a");
            stays(name + " x; ret a", name + " x; ret a");
        }
        for (String name : new String[] {"mul", "div"}) {
            stays(name + " #2; ret a", name + " #2; ret a");
            stays(name + " #4294967295; ret a", name + " #4294967295; ret a");
            stays(name + " x; ret a", name + " x; ret a");
        }
        for (String other : new String[] {"mul #0", "and #0", "and #1", "and #4294967295", "mod #1", "neg", "ldx #0", "or #4294967295",
                "add #4294967295", "ldx #1", "st M[0]", "stx M[1]", "tax"}) {
            stays(other + "; ret a", other + "; ret a");
        }
        // The K of one with x is not used.
        for (int code : new int[] {0x0c, 0x1c, 0x4c, 0xac, 0x6c, 0x7c, 0x2c, 0x3c}) {
            BerkeleySieve x = Bench.program(Bench.row(code, code == 0x2c || code == 0x3c ? 1 : 0), Bench.row(6, 0));
            BENCH.due("plainer() of code " + code, x.plainer(), 0);
            BENCH.due("count(0)", x.count(0), 2);
        }
    }

    private static void idleJumpedTo() {
        BENCH.says("go, if no jump leads to them");
        for (String idle : new String[] {"add #0", "sub #0", "or #0", "xor #0", "lsh #0", "rsh #0", "mul #1", "div #1"}) {
            stays("jeq #1,e,f; f: neg; e: " + idle + "; ret a", "jeq #1,L2,L1; neg; " + idle + "; ret a");
            stays("jeq #1,f,e; f: neg; e: " + idle + "; ret a", "jeq #1,L1,L2; neg; " + idle + "; ret a");
            stays("jeq #9,y; neg; ja e; y: neg; e: " + idle + "; ret a", "jeq #9,L3,L1; neg; ja L4; neg; " + idle + "; ret a");
            stays("jeq #1,e; " + idle + "; e: ret a", "jeq #1,L2,L1; " + idle + "; ret a");
            made("jeq #1,e,f; f: neg; e: neg; " + idle + "; ret a", 1, "jeq #1,L2,L1; neg; neg; ret a");
        }
        // The jump that leads to it goes, since no way leads there; then the ja before it, then it.
        made("ja c; u: ja i; c: neg; i: add #0; ret a", 3, "neg; ret a");
    }

    private static void firstOfTwo() {
        BENCH.says("(f) of two, one directly behind the other, that are each ld #k, ld len, ld M[k] or txa");
        String[] loads = {"ld #1", "ld len", "ld M[3]", "txa"};
        for (String first : loads) {
            for (String second : loads) {
                made("st M[3]; " + first + "; " + second + "; ret a", 1, "st M[3]; " + second + "; ret a");
            }
        }
        made("ld #1; ld #2; ld #3; ld #4; ret a", 3, "ld #4; ret a");
    }

    private static void firstOfTwoStays() {
        BENCH.says("one directly behind the other");
        for (String load : new String[] {"ld #1", "ld len", "txa"}) {
            stays(load + "; tax; ld #2; ret a", load + "; tax; ld #2; ret a");
            stays(load + "; ret a", load + "; ret a");
            for (String other : new String[] {"ld [0]", "ldh [0]", "ldb [0]", "ld [x+0]", "ldh [x+0]", "ldb [x+0]", "ldx #1", "ldx len",
                    "ldx 4*([0]&0xf)", "tax", "neg", "st M[0]"}) {
                stays(other + "; " + load + "; ret a", other + "; " + load + "; ret a");
                stays(load + "; " + other + "; ret a", load + "; " + other + "; ret a");
            }
        }
        stays("st M[0]; ldx M[0]; ld #1; ret a", "st M[0]; ldx M[0]; ld #1; ret a");
    }

    private static void secondJumpedTo() {
        BENCH.says("and to the second of which no jump leads, the first one goes");
        stays("jeq #1,e,f; f: ld #1; e: ld #2; ret a", "jeq #1,L2,L1; ld #1; ld #2; ret a");
        stays("jeq #1,f,e; f: ld #1; e: ld #2; ret a", "jeq #1,L1,L2; ld #1; ld #2; ret a");
        // A jump to the first of the two keeps none.
        made("jeq #1,e,f; f: neg; e: ld #1; ld #2; ret a", 1, "jeq #1,L2,L1; neg; ld #2; ret a");
        made("jeq #1,f,e; f: ld #1; ld #2; e: ret a", 1, "jeq #1,L1,L2; ld #2; ret a");
        // Of three, the second of which is jumped to, the second goes alone; the jump leads to the third then.
        made("jeq #1,e,f; f: ld #1; e: ld #2; ld #3; ret a", 1, "jeq #1,L2,L1; ld #1; ld #3; ret a");
    }

    private static void jumpsOverWhatGoes() {
        BENCH.says("Jumps over what goes lead where they led");
        made("jeq #1,e,f; f: neg; add #0; e: ret a", 1, "jeq #1,L2,L1; neg; ret a");
        made("jeq #1,f,e; f: neg; add #0; e: ret a", 1, "jeq #1,L1,L2; neg; ret a");
        made("jeq #9,y; ja e; y: neg; ret #1; e: jeq #1,b,c; b: neg; add #0; add #0; c: ret a", 4,
                "jeq #9,L1,L3; neg; ret #1; jeq #1,L4,L5; neg; ret a");
        // Those that end before it stay as they are.
        made("jeq #1,e; neg; e: neg; add #0; ret a", 1, "jeq #1,L2,L1; neg; neg; ret a");
        BerkeleySieve x = Bench.assembled("jeq #9,y\nneg\nja e\ny: neg\nadd #0\nneg\ne: ret a");
        BENCH.due("plainer() with a ja over it", x.plainer(), 1);
        BENCH.due("its program", Bench.numbers(x), "15 2 0 9; 84 0 0 0; 5 0 0 2; 84 0 0 0; 84 0 0 0; 16 0 0 0");
    }

    private static void jumpsToWhatGoes() {
        BENCH.says("one that led to it leads to the one behind it");
        made("jeq #1,e,f; f: neg; e: ld #1; ld len; ret a", 1, "jeq #1,L2,L1; neg; ld len; ret a");
        made("jeq #1,f,e; f: neg; e: ld #1; ld len; ret a", 1, "jeq #1,L1,L2; neg; ld len; ret a");
        BerkeleySieve x = Bench.assembled("jeq #9,y\nneg\nja e\ny: neg\ne: ld #1\nld #2\nret a");
        BENCH.due("plainer() with a ja to it", x.plainer(), 1);
        BENCH.due("its program", Bench.numbers(x), "15 2 0 9; 84 0 0 0; 5 0 0 1; 84 0 0 0; 0 0 0 2; 16 0 0 0");
    }

    private static void theFirstOfThese() {
        BENCH.says("again and again the first of these that can be done is done");
        // (a) ahead of (c): else two times would do.
        made("ja b; b: ja c; c: ret a", 3, "ret a");
        // (a) ahead of (b): each way is led on before they are found to be one.
        made("jeq #1,b,b; b: ja c; c: ret a", 5, "ret a");
        // (b) ahead of (c) and (d).
        made("jeq #1,b,b; neg; b: ret a", 3, "ret a");
        // Three ways are led on, then (d) twice, then (c).
        made("jeq #1,x,y; y: neg; x: ja z; z: ja w; v: ret #1; w: ret a", 6, "jeq #1,L2,L1; neg; ret a");
        // (d) makes (c) and (e) possible: the jump that no way leads to stood between and kept the add.
        made("neg; ja c; u: jeq #1,i,c; c: neg; i: add #0; ret a", 3, "neg; neg; ret a");
        // (e) makes (f) possible.
        made("ld #1; add #0; ld #2; ret a", 2, "ld #2; ret a");
    }

    private static void theLeastInstruction() {
        BENCH.says("at the least instruction where it can");
        // From the end on, each ja would be led on once: 3 times, not 6.
        made("ja b; b: ja c; c: ja d; d: ja e; e: ret a", 10, "ret a");
    }

    private static void againAndAgain() {
        BENCH.says("again and again");
        for (int jumps : new int[] {1, 2, 3, 10, 199}) {
            BerkeleySieve x = new BerkeleySieve();
            for (int n = 0; n < jumps; n++) {
                x.put(5, 0, 0, 0);
            }
            x.put(0x16, 0, 0, 0);
            BENCH.due("plainer() of " + jumps + " ja", x.plainer(), jumps * (jumps - 1) / 2 + jumps);
            BENCH.due("what is left", Bench.listing(x), "ret a");
            BENCH.due("plainer() once more", x.plainer(), 0);
        }
    }

    private static void unusedStay() {
        BENCH.says("becomes ja there (JT and JF 0)");
        BerkeleySieve x = Bench.program(Bench.row(0x15, 1, 0, 7), Bench.row(5, 6, 7, 1), Bench.row(0x84, 8, 9, 10), Bench.row(6, 3, 4, 1));
        BENCH.due("plainer()", x.plainer(), 2);
        BENCH.due("the program", Bench.numbers(x), "15 0 1 7; 84 8 9 10; 6 3 4 1");
        x = Bench.program(Bench.row(0x15, 2, 0, 7), Bench.row(0x84, 1, 1, 1), Bench.row(5, 6, 7, 1), Bench.row(6, 3, 4, 1), Bench.row(6, 5, 6, 2));
        BENCH.due("plainer() of one with a ja that stays", x.plainer(), 0);
        BENCH.due("its program", Bench.numbers(x), "15 2 0 7; 84 1 1 1; 5 6 7 1; 6 3 4 1; 6 5 6 2");
    }

    private static void fullPrograms() {
        BENCH.says("how many times something was done");
        BerkeleySieve x = Bench.program(rows(Bench.row(4, 0)));
        BENCH.due("plainer() of 199 add #0", x.plainer(), 199);
        BENCH.due("what is left", Bench.listing(x), "ret #9");
        x = Bench.program(rows(Bench.row(0, 1)));
        BENCH.due("plainer() of 199 ld #1", x.plainer(), 198);
        BENCH.due("what is left of them", Bench.listing(x), "ld #1; ret #9");
        x = Bench.program(rows(Bench.row(6, 0)));
        BENCH.due("plainer() of 200 ret", x.plainer(), 199);
        BENCH.due("what is left of ret", Bench.listing(x), "ret #0");
        x = Bench.program(rows(Bench.row(0x84, 0)));
        BENCH.due("plainer() of 199 neg", x.plainer(), 0);
        BENCH.due("all of it is left", x.count(0), 200);
        x = Bench.program(rows(Bench.row(0x84, 0), Bench.row(0x15, 198, 0, 1), Bench.row(4, 0), Bench.row(0x84, 0), Bench.row(4, 0)));
        BENCH.due("plainer() under a far jump", x.plainer(), 1);
        BENCH.due("its JT", x.insn(0, 1), 197);
        BENCH.due("the add that the jump leads to stays", x.insn(1, 0), 4);
    }
}
