/** Promises 16 and 17: write, out. */
public final class WriteTest {
    private static final Bench BENCH = new Bench("WriteTest");

    public static void main(String[] args) {
        all();
        refused();
        far();
        BENCH.finish();
    }

    private static void written(int code, int jt, int jf, int k, String due) {
        BerkeleySieve x = new BerkeleySieve();
        x.put(6, 0, 0, 0);
        x.put(code, jt, jf, k);
        BENCH.due("write(1) of code " + code, Bench.written(x, 1), due);
        BENCH.due("count(3) of code " + code, x.count(3), due.length());
    }

    private static void all() {
        written(0x00, 9, 9, 5, "ld #5");
        written(0x20, 0, 0, 5, "ld [5]");
        written(0x28, 0, 0, 0, "ldh [0]");
        written(0x30, 0, 0, 10, "ldb [10]");
        written(0x40, 0, 0, 100, "ld [x+100]");
        written(0x48, 0, 0, 5, "ldh [x+5]");
        written(0x50, 0, 0, 5, "ldb [x+5]");
        written(0x60, 0, 0, 5, "ld M[5]");
        written(0x80, 0, 0, 5, "ld len");
        written(0x01, 0, 0, -1, "ldx #4294967295");
        written(0x61, 0, 0, 99, "ldx M[99]");
        written(0x81, 0, 0, 5, "ldx len");
        written(0xb1, 0, 0, 14, "ldx 4*([14]&0xf)");
        written(0x02, 0, 0, 5, "st M[5]");
        written(0x03, 0, 0, 5, "stx M[5]");
        String[] names = {"add", "sub", "mul", "div", "or", "and", "lsh", "rsh", "neg", "mod", "xor"};
        for (int n = 0; n < names.length; n++) {
            if (n != 8) {
                written(4 + 16 * n, 0, 0, 1000, names[n] + " #1000");
                written(12 + 16 * n, 0, 0, 1000, names[n] + " x");
            }
        }
        written(0x84, 0, 0, 5, "neg");
        written(0x05, 1, 2, 3, "ja L5");
        String[] jumps = {"jeq", "jgt", "jge", "jset"};
        for (int n = 0; n < jumps.length; n++) {
            written(0x15 + 16 * n, 1, 5, 2048, jumps[n] + " #2048,L3,L7");
            written(0x1d + 16 * n, 0, 255, 2048, jumps[n] + " x,L2,L257");
        }
        written(0x06, 0, 0, 262144, "ret #262144");
        written(0x16, 0, 0, 5, "ret a");
        written(0x07, 0, 0, 5, "tax");
        written(0x87, 0, 0, 5, "txa");
        written(0x8c, 0, 0, 5, "?");
        written(0x0d, 1, 1, 5, "?");
        written(0x17, 0, 0, 5, "?");
        written(65535, 0, 0, 5, "?");
        written(0x106, 0, 0, 5, "?");
    }

    private static void refused() {
        BerkeleySieve x = new BerkeleySieve();
        x.put(0x84, 0, 0, 0);
        BENCH.due("write(0)", x.write(0), 3);
        for (int i : new int[] {-1, 1, 200, Integer.MAX_VALUE, Integer.MIN_VALUE}) {
            BENCH.due("write(" + i + ")", x.write(i), -1);
        }
        BENCH.due("out(0)", x.out(0), 'n');
        BENCH.due("out(2)", x.out(2), 'g');
        BENCH.due("out(3)", x.out(3), -1);
        BENCH.due("out(-1)", x.out(-1), -1);
        BENCH.due("out(highest)", x.out(Integer.MAX_VALUE), -1);
        x.clear();
        BENCH.due("count(3) stays", x.count(3), 3);
        BENCH.due("write(0) of none", x.write(0), -1);
        BENCH.due("out(1) stays", x.out(1), 'e');
    }

    private static void far() {
        written(0x05, 0, 0, 1000000, "ja L1000002");
        written(0x45, 255, 255, -1, "jset #4294967295,L257,L257");
        written(0xb1, 0, 0, -1, "ldx 4*([4294967295]&0xf)");
    }
}
