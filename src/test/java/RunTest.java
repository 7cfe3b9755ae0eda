/** Promises 13 and 14: run, ran. */
public final class RunTest {
    private static final Bench BENCH = new Bench("RunTest");
    private static final int[] BYTES = {0x81, 0x02, 0xf3, 0x04, 0xff, 0x4e};

    public static void main(String[] args) {
        loads();
        indexLoads();
        edgesOfPacket();
        arithmetic();
        zeroDivisors();
        jumps();
        words();
        kept();
        BENCH.finish();
    }

    /** Runs a text on the bytes; run(), ran(0), ran(1), ran(2), ran(3), ran(4) are due. */
    private static BerkeleySieve ran(String text, int... due) {
        BerkeleySieve x = new BerkeleySieve();
        Bench.packet(x, BYTES);
        Bench.assemble(x, text);
        BENCH.due("why() of " + text, x.why(), 0);
        BENCH.due("run() of " + text, x.run(), due[0]);
        for (int what = 0; what < due.length - 1; what++) {
            BENCH.due("ran(" + what + ") of " + text, x.ran(what), due[what + 1]);
        }
        return x;
    }

    private static void loads() {
        ran("ret #7", 1, 7, 1, 0, 0, 0);
        ran("ret #4294967295", 1, -1, 1, 0, 0, 0);
        ran("ret a", 1, 0, 1, 0, 0, 0);
        ran("ld #5\nret a", 1, 5, 2, 5, 0, 1);
        ran("ld [0]\nret a", 1, 0x8102f304, 2, 0x8102f304, 0, 1);
        ran("ld [1]\nret a", 1, 0x02f304ff, 2);
        ran("ldh [0]\nret a", 1, 0x8102, 2);
        ran("ldb [4]\nret a", 1, 0xff, 2);
        ran("ld len\nret a", 1, 6, 2);
        ran("ld [0]\nldh [1]\nret a", 1, 0x02f3, 3);
        ran("ldx #2\nld [x+0]\nret a", 1, 0xf304ff4e, 3, 0xf304ff4e, 2, 2);
        ran("ldx #2\nldh [x+1]\nret a", 1, 0x04ff, 3);
        ran("ldx #2\nldb [x+3]\nret a", 1, 0x4e, 3);
    }

    private static void indexLoads() {
        ran("ldx #9\nret #1", 1, 1, 2, 0, 9, 1);
        ran("ldx len\nret #1", 1, 1, 2, 0, 6, 1);
        ran("ldx 4*([5]&0xf)\nret #1", 1, 1, 2, 0, 56, 1);
        ran("ldx 4*([6]&0xf)\nret #1", 0, 0, 1, 0, 0, 0);
        ran("ldx 4*([4294967295]&0xf)\nret #1", 0, 0, 1, 0, 0, 0);
        ran("ld #8\ntax\nld #1\nret #1", 1, 1, 4, 1, 8, 3);
        ran("ldx #8\ntxa\nret #1", 1, 1, 3, 8, 8, 2);
    }

    private static void edgesOfPacket() {
        ran("ld [2]\nret #1", 1, 1, 2);
        ran("ld #9\nld [3]\nret #1", 0, 0, 2, 9, 0, 1);
        ran("ldh [4]\nret #1", 1, 1, 2);
        ran("ldh [5]\nret #1", 0, 0, 1);
        ran("ldb [5]\nret #1", 1, 1, 2);
        ran("ldb [6]\nret #1", 0, 0, 1);
        ran("ld [4294967295]\nret #1", 0, 0, 1);
        ran("ldb [2147483648]\nret #1", 0, 0, 1);
        // The sum of X and K is 2^32 and more; it doesn't wrap to a place that is there.
        ran("ldx #4294967295\nldb [x+1]\nret #1", 0, 0, 2, 0, -1, 1);
        ran("ldx #4294967295\nldb [x+4294967295]\nret #1", 0, 0, 2);
        ran("ldx #1\nldb [x+4294967295]\nret #1", 0, 0, 2);
    }

    private static void calculated(String name, int a, int b, int due) {
        String start = "ld #" + Integer.toUnsignedString(a) + "\n";
        String number = Integer.toUnsignedString(b);
        ran(start + "ldx #" + number + "\n" + name + " x\nret a", 1, due, 4, due, b, 3);
        boolean refused = (name.equals("lsh") || name.equals("rsh")) && (b < 0 || b > 31);
        if (!refused) {
            ran(start + name + " #" + number + "\nret a", 1, due, 3, due, 0, 2);
        }
    }

    private static void arithmetic() {
        calculated("add", -1, 3, 2);
        calculated("sub", 2, 3, -1);
        calculated("mul", 0x10001, 0x10001, 0x20001);
        calculated("mul", -1, -1, 1);
        calculated("div", -1, 2, 0x7fffffff);
        calculated("div", -1, -2, 1);
        calculated("div", 5, -1, 0);
        calculated("mod", -1, 10, 5);
        calculated("mod", 7, -1, 7);
        calculated("or", 0x0f0f, 0x00ff, 0x0fff);
        calculated("and", 0x0f0f, 0x00ff, 0x000f);
        calculated("xor", 0x0f0f, 0x00ff, 0x0ff0);
        calculated("lsh", 1, 31, 0x80000000);
        calculated("lsh", 5, 0, 5);
        calculated("lsh", 1, 32, 0);
        calculated("lsh", -1, -1, 0);
        calculated("rsh", -1, 31, 1);
        calculated("rsh", -1, 4, 0x0fffffff);
        calculated("rsh", -5, 0, -5);
        calculated("rsh", -1, 32, 0);
        calculated("rsh", -1, Integer.MIN_VALUE, 0);
        ran("ld #1\nneg\nret a", 1, -1, 3);
        ran("neg\nret a", 1, 0, 2);
    }

    private static void zeroDivisors() {
        ran("ld #7\ndiv x\nret #1", 0, 0, 2, 7, 0, 1);
        ran("ld #7\nmod x\nret #1", 0, 0, 2, 7, 0, 1);
    }

    private static void branch(String name, int a, int b, boolean due) {
        String start = "ld #" + Integer.toUnsignedString(a) + "\nldx #" + Integer.toUnsignedString(b) + "\n";
        String end = ",yes,no\nret #9\nyes: ret #1\nno: ret #2";
        ran(start + name + " x" + end, 1, due ? 1 : 2, 4, a, b, due ? 4 : 5);
        ran(start + name + " #" + Integer.toUnsignedString(b) + end, 1, due ? 1 : 2, 4, a, b, due ? 4 : 5);
    }

    private static void jumps() {
        branch("jeq", 5, 5, true);
        branch("jeq", 5, 6, false);
        branch("jgt", 5, 5, false);
        branch("jgt", -1, 5, true);
        branch("jgt", 5, -1, false);
        branch("jge", 5, 5, true);
        branch("jge", -1, 5, true);
        branch("jge", 5, -1, false);
        branch("jset", 6, 3, true);
        branch("jset", 4, 3, false);
        branch("jset", 0x80000000, -1, true);
        branch("jset", 5, 0, false);
        ran("ja e\nret #1\ne: ret #2", 1, 2, 2, 0, 0, 2);
        ran("jeq #0,e\nret #1\ne: ret #2", 1, 2, 2, 0, 0, 2);
        ran("jeq #1,e\nret #1\ne: ret #2", 1, 1, 2, 0, 0, 1);
    }

    private static void words() {
        BerkeleySieve x = ran("ld #7\nst M[0]\nldx #8\nstx M[15]\nld M[15]\nldx M[0]\nret a", 1, 8, 7, 8, 7, 6);
        for (int word = 0; word < 16; word++) {
            BENCH.due("ran(" + (10 + word) + ")", x.ran(10 + word), word == 0 ? 7 : word == 15 ? 8 : 0);
        }
        BENCH.due("ran(5)", x.ran(5), 0);
        BENCH.due("ran(9)", x.ran(9), 0);
        BENCH.due("ran(26)", x.ran(26), 0);
        BENCH.due("ran(-1)", x.ran(-1), 0);
        Bench.assemble(x, "ret #1");
        x.run();
        BENCH.due("ran(10) of the next run", x.ran(10), 0);
        BENCH.due("ran(3) of the next run", x.ran(3), 0);
    }

    private static void kept() {
        BerkeleySieve x = ran("ldx #3\nld #4\nst M[2]\nret #5", 1, 5, 4, 4, 3, 3);
        x.clear();
        BENCH.due("run() of no program", x.run(), -1);
        x.put(0, 0, 0, 1);
        BENCH.due("run() of a bad one", x.run(), -1);
        Bench.packet(x, 1);
        BENCH.due("ran(0) stays", x.ran(0), 5);
        BENCH.due("ran(1) stays", x.ran(1), 4);
        BENCH.due("ran(2) stays", x.ran(2), 4);
        BENCH.due("ran(3) stays", x.ran(3), 3);
        BENCH.due("ran(4) stays", x.ran(4), 3);
        BENCH.due("ran(12) stays", x.ran(12), 4);
        x.clear();
        for (int n = 0; n < 199; n++) {
            x.put(4, 0, 0, 1);
        }
        x.put(0x16, 0, 0, 0);
        BENCH.due("run() of 200", x.run(), 1);
        BENCH.due("ran(0) of 200", x.ran(0), 199);
        BENCH.due("ran(1) of 200", x.ran(1), 200);
        BENCH.due("ran(4) of 200", x.ran(4), 199);
    }
}
