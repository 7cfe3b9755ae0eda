import java.util.Random;

/** Random runs of 512 calls with any arguments: nothing throws, all ends, and the answers fit one another. */
public final class AnyCallsTest {
    private static final Bench BENCH = new Bench("AnyCallsTest");
    private static final int CALLS = 512;
    private static final int[] ODD = {0, 1, -1, 2, 3, 4, 10, 20, 25, 26, 199, 200, 255, 256, 400, 600, 3999, 4000, 4001, 65535,
        65536, Integer.MAX_VALUE, Integer.MIN_VALUE};
    private static final String[] TEXTS = {"len=1 and [len:2]>3 or not(1<2)", "((((1", "1-[1]-[2]=[3]", "ret a", "ld [1]\nret #1\n",
        "a: ld #1\njeq x,b\nb: ja c\nc:ret a", "x:\nx:", "st M[1]\nld M[1]\nld len\nadd #0\nret a", "ja e\nneg\ne: ret #3", ""};

    private final BerkeleySieve sieve = new BerkeleySieve();
    private final Random random;
    private int left = CALLS;

    private AnyCallsTest(Random random) {
        this.random = random;
    }

    public static void main(String[] args) {
        Random random = new Random(5);
        for (int n = 0; n < 2000; n++) {
            new AnyCallsTest(random).work();
        }
        BENCH.finish();
    }

    private void work() {
        // No step makes more than eight calls.
        while (left >= 8) {
            left -= step();
        }
    }

    private int any() {
        return random.nextInt(4) == 0 ? random.nextInt() : ODD[random.nextInt(ODD.length)];
    }

    private int few() {
        return random.nextInt(5) == 0 ? any() : random.nextInt(6);
    }

    /** Makes some calls: how many. */
    private int step() {
        switch (random.nextInt(20)) {
            case 0:
                return feed();
            case 1:
                return end(any());
            case 2, 3, 4, 5:
                return put(few() * 16 + random.nextInt(8), few(), few(), few());
            case 6:
                return put(any(), any(), any(), any());
            case 7:
                return clear();
            case 8:
                return text(sieve.assemble(), 1, 6);
            case 9:
                return text(sieve.compile(), 7, 8);
            case 10, 11:
                String text = TEXTS[random.nextInt(TEXTS.length)];
                Bench.tape(sieve, text);
                return 2 + (text.length() + 19) / 20;
            case 12:
                return packet();
            case 13, 14:
                return looked();
            case 15:
                return judged();
            case 16:
                return plainer();
            case 17:
                return written(few());
            case 18:
                return put(6, 0, 0, 0);
            default:
                return run();
        }
    }

    private int feed() {
        int had = sieve.count(2);
        int answer = sieve.feed(any(), any(), any(), any(), any());
        BENCH.due("feed()", answer, had > 3980 ? -1 : had + 20);
        BENCH.due("count(2) behind feed()", sieve.count(2), had > 3980 ? had : had + 20);
        return 3;
    }

    private int end(int n) {
        int had = sieve.count(2);
        boolean fits = n >= 0 && n <= had;
        BENCH.due("end(" + n + ") of " + had, sieve.end(n), fits);
        BENCH.due("count(2) behind end()", sieve.count(2), fits ? n : had);
        return 3;
    }

    private int put(int code, int jt, int jf, int k) {
        int had = sieve.count(0);
        boolean fits = code >= 0 && code < 65536 && jt >= 0 && jt < 256 && jf >= 0 && jf < 256 && had < 200;
        BENCH.due("put()", sieve.put(code, jt, jf, k), fits ? had + 1 : -1);
        BENCH.due("count(0) behind put()", sieve.count(0), fits ? had + 1 : had);
        return 3;
    }

    private int clear() {
        int had = sieve.count(0);
        BENCH.due("clear()", sieve.clear(), had);
        BENCH.due("count(0) behind clear()", sieve.count(0), 0);
        return 3;
    }

    private int text(int answer, int least, int most) {
        int error = sieve.fault(0);
        BENCH.due("fault(0) tells it", error, answer >= 0 ? 0 : Math.max(least, Math.min(most, error)));
        BENCH.due("fault(1) tells it", sieve.fault(1) == -1, answer >= 0 || error == 8);
        BENCH.due("the tape behind it", sieve.count(2), 0);
        BENCH.due("count(0) behind it", answer < 0 || sieve.count(0) == answer, true);
        return answer < 0 ? 4 : 5;
    }

    private int packet() {
        int had = sieve.count(2);
        BENCH.due("packet() of " + had, sieve.packet(), had > 600 ? -1 : had);
        BENCH.due("count(2) behind packet()", sieve.count(2), had > 600 ? had : 0);
        return 3;
    }

    private int looked() {
        sieve.fault(any());
        sieve.insn(any(), any());
        sieve.ran(any());
        sieve.out(any());
        sieve.count(any());
        return 5;
    }

    private int judged() {
        int why = sieve.why();
        int bad = sieve.bad();
        int count = sieve.count(0);
        BENCH.due("why() of none", why == 7, count == 0);
        BENCH.due("bad() and why() fit", bad == -1, why == 0 || why == 7);
        BENCH.due("bad() is there", bad < count, bad < 0 || count > 0);
        return 3;
    }

    private int plainer() {
        boolean valid = sieve.why() == 0;
        int had = sieve.count(0);
        int answer = sieve.plainer();
        BENCH.due("plainer() is refused", answer == -1, !valid);
        BENCH.due("count(0) behind plainer()", sieve.count(0) <= had, true);
        BENCH.due("plainer() again", sieve.plainer(), valid ? 0 : -1);
        return 5;
    }

    private int written(int i) {
        int had = sieve.count(3);
        boolean fits = i >= 0 && i < sieve.count(0);
        int answer = sieve.write(i);
        BENCH.due("write(" + i + ") is refused", answer == -1, !fits);
        BENCH.due("count(3) behind write()", sieve.count(3), fits ? answer : had);
        return 4;
    }

    private int run() {
        int steps = sieve.ran(1);
        boolean valid = sieve.why() == 0;
        int answer = sieve.run();
        BENCH.due("run() is refused", answer == -1, !valid);
        BENCH.due("ran(1) behind run()", sieve.ran(1) > 0 && sieve.ran(1) <= 200, valid || steps > 0);
        return 5;
    }
}
