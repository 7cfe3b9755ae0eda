/** Promise 15: plainer. */
public final class PlainerTest {
    private static final Bench BENCH = new Bench("PlainerTest");

    public static void main(String[] args) {
        jumps();
        unreached();
        idle();
        overwritten();
        together();
        refused();
        BENCH.finish();
    }

    private static void made(String text, int times, String due) {
        BerkeleySieve x = new BerkeleySieve();
        Bench.assemble(x, text.replace("; ", "\n"));
        BENCH.due("why() of " + text, x.why(), 0);
        BENCH.due("plainer() of " + text, x.plainer(), times);
        BENCH.due("program of " + text, Bench.listing(x), due);
        BENCH.due("plainer() once more of " + text, x.plainer(), 0);
        BENCH.due("why() then of " + text, x.why(), 0);
    }

    private static void jumps() {
        made("ret a", 0, "ret a");
        // A ja to the next one goes.
        made("ja e; e: ret a", 1, "ret a");
        // The first leads on to the ret; the second is then reached by nobody; then the first goes.
        made("ja b; b: ja c; c: ret a", 3, "ret a");
        made("jeq #1,b,c; b: ja d; c: ret #1; d: ret a", 2, "jeq #1,L2,L1; ret #1; ret a");
        made("jeq #1,c,b; b: ja d; c: ret #1; d: ret a", 2, "jeq #1,L1,L2; ret #1; ret a");
        // Both ways lead to one instruction.
        made("jeq #1,b,b; neg; b: ret a", 3, "ret a");
        made("jset x,b; b: ret a", 2, "ret a");
        made("ld #1; jgt #1,b,c; b: ja d; c: ja d; d: ret a", 6, "ld #1; ret a");
        // A branch that became a ja and stays has no JT and JF.
        BerkeleySieve x = new BerkeleySieve();
        Bench.assemble(x, "jeq #5,y\nneg\njeq #1,e,e\ny: ret #1\ne: ret a");
        BENCH.due("plainer() of a branch that stays", x.plainer(), 1);
        BENCH.due("which is a ja then", Bench.numbers(x), "15 2 0 5; 84 0 0 0; 5 0 0 1; 6 0 0 1; 16 0 0 0");
        x = new BerkeleySieve();
        x.put(5, 7, 8, 0);
        x.put(0x15, 1, 1, 9);
        x.put(6, 0, 0, 0);
        x.put(6, 3, 4, 1);
        BENCH.due("plainer() with unused numbers", x.plainer(), 5);
        BENCH.due("what is left", Bench.numbers(x), "6 3 4 1");
    }

    private static void unreached() {
        made("ret a; ret #1", 1, "ret a");
        made("ret a; neg; neg; ret #1", 3, "ret a");
        made("jeq #1,e; ret a; ld #1; e: ret #1", 1, "jeq #1,L2,L1; ret a; ret #1");
        made("ja e; jeq #1,e; neg; e: ret a", 3, "ret a");
        made("jeq #1,e,f; neg; neg; f: ret #2; e: ret #1", 2, "jeq #1,L2,L1; ret #2; ret #1");
    }

    private static void idle() {
        for (String gone : new String[] {"add #0", "sub #0", "or #0", "xor #0", "lsh #0", "rsh #0", "mul #1", "div #1"}) {
            made(gone + "; ret a", 1, "ret a");
            made("ldb [0]; " + gone + "; " + gone + "; ret a", 2, "ldb [0]; ret a");
            made("jeq #1,e,f; e: " + gone + "; f: ret a", 0, "jeq #1,L1,L2; " + gone + "; ret a");
        }
        for (String stays : new String[] {"add #1", "add x", "sub x", "or x", "xor x", "lsh x", "rsh x", "mul #0", "mul x",
                "div #2", "div x", "mod #1", "and #0", "and #4294967295", "lsh #1", "or #1", "neg"}) {
            made(stays + "; ret a", 0, stays + "; ret a");
        }
        // The way of JF leads to it, although it is the next one.
        made("jeq #1,e; add #0; e: ret a", 0, "jeq #1,L2,L1; add #0; ret a");
    }

    private static void overwritten() {
        String[] loads = {"ld #1", "ld len", "ld M[3]", "txa"};
        for (String first : loads) {
            for (String second : loads) {
                made("st M[3]; " + first + "; " + second + "; ret a", 1, "st M[3]; " + second + "; ret a");
            }
        }
        for (String stays : new String[] {"ldb [0]", "ldx #1", "ld [x+0]", "tax", "neg"}) {
            made(stays + "; ld #1; ret a", 0, stays + "; ld #1; ret a");
            made("ld #1; " + stays + "; ret a", 0, "ld #1; " + stays + "; ret a");
        }
        made("ld #1; ld #2; ld #3; ret a", 2, "ld #3; ret a");
        made("jeq #1,f; neg; ld #1; f: ld #2; ret a", 0, "jeq #1,L3,L1; neg; ld #1; ld #2; ret a");
        // A jump to the first of the two leads to the second one then.
        made("jeq #1,f,e; e: neg; f: ld #1; ld #2; ret a", 1, "jeq #1,L2,L1; neg; ld #2; ret a");
    }

    private static void together() {
        made("jeq #1,e,f; e: neg; add #0; f: ret a", 1, "jeq #1,L1,L2; neg; ret a");
        made("ld #1; ja e; e: ld #2; ret a", 2, "ld #2; ret a");
        made("ld #1; mul #1; ld len; ret a", 2, "ld len; ret a");
        made("jeq #1,b,c; b: ja e; c: add #0; e: ret a", 2, "jeq #1,L2,L1; add #0; ret a");
        made("jeq #1,b,c; b: jeq #2,e,d; c: ja d; d: ret a; e: ret #1", 2, "jeq #1,L1,L2; jeq #2,L3,L2; ret a; ret #1");
        // A chain of jumps: each is led on to the end of it, one by one.
        BerkeleySieve x = new BerkeleySieve();
        for (int n = 0; n < 199; n++) {
            x.put(5, 0, 0, 0);
        }
        x.put(0x16, 0, 0, 0);
        BENCH.due("plainer() of a chain", x.plainer(), 198 * 199 / 2 + 199);
        BENCH.due("what is left of a chain", Bench.listing(x), "ret a");
    }

    private static void refused() {
        BerkeleySieve x = new BerkeleySieve();
        BENCH.due("plainer() of none", x.plainer(), -1);
        x.put(5, 0, 0, 0);
        x.put(4, 0, 0, 0);
        BENCH.due("plainer() of a bad one", x.plainer(), -1);
        BENCH.due("which stays", Bench.numbers(x), "5 0 0 0; 4 0 0 0");
    }
}
