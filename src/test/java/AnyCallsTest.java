import java.util.Random;

/** Random runs of 512 calls with any arguments: nothing throws, and what is refused changes nothing. */
public final class AnyCallsTest {
    private static final Bench BENCH = new Bench("AnyCallsTest");
    private static final int[] ODD = {0, 1, -1, 2, 3, 4, 10, 20, 25, 26, 199, 200, 255, 256, 400, 600, 3999, 4000, 4001, 65535,
        65536, Integer.MAX_VALUE, Integer.MIN_VALUE};
    private static final String[] TEXTS = {"len=1 and [len:2]>3 or not(1<2)", "((((1", "1-[1]-[2]=[3]", "ret a", "ld [1]\nret #1\n",
        "a: ld #1\njeq x,b\nb: ja c\nc:ret a", "x:\nx:", "st M[1]\nld M[1]\nld len\nadd #0\nret a", "ja e\nneg\ne: ret #3", ""};

    public static void main(String[] args) {
        Random random = new Random(5);
        for (int n = 0; n < 1500; n++) {
            BerkeleySieve x = new BerkeleySieve();
            for (int calls = 0; calls < 512; calls++) {
                call(x, random);
            }
        }
        BENCH.finish();
    }

    private static int any(Random random) {
        return random.nextInt(4) == 0 ? random.nextInt() : ODD[random.nextInt(ODD.length)];
    }

    private static int few(Random random) {
        return random.nextInt(5) == 0 ? any(random) : random.nextInt(6);
    }

    private static void call(BerkeleySieve x, Random random) {
        switch (random.nextInt(20)) {
            case 0 -> x.feed(any(random), any(random), any(random), any(random), any(random));
            case 1 -> x.end(any(random));
            case 2, 3, 4, 5 -> x.put(few(random) * 16 + random.nextInt(8), few(random), few(random), few(random));
            case 6 -> x.put(any(random), any(random), any(random), any(random));
            case 7 -> x.clear();
            case 8 -> x.assemble();
            case 9 -> x.compile();
            case 10 -> Bench.tape(x, TEXTS[random.nextInt(TEXTS.length)]);
            case 11 -> x.packet();
            case 12 -> looked(x, random);
            case 13 -> x.plainer();
            case 14 -> x.write(few(random));
            case 15 -> refusedRun(x);
            case 16 -> refusedPlainer(x);
            case 17 -> refusedText(x, random.nextBoolean());
            case 18 -> x.put(6, 0, 0, 0);
            default -> x.run();
        }
    }

    private static void looked(BerkeleySieve x, Random random) {
        x.fault(any(random));
        x.insn(any(random), any(random));
        x.ran(any(random));
        x.out(any(random));
        x.count(any(random));
        boolean valid = x.why() == 0;
        BENCH.due("bad() and why() fit", valid || x.count(0) == 0, x.bad() == -1);
    }

    private static void refusedRun(BerkeleySieve x) {
        String before = kept(x);
        boolean valid = x.why() == 0;
        int answer = x.run();
        BENCH.due("run() is refused", answer == -1, !valid);
        if (answer == -1) {
            BENCH.due("state behind run()", kept(x), before);
        }
    }

    private static void refusedPlainer(BerkeleySieve x) {
        String before = kept(x);
        boolean valid = x.why() == 0;
        int answer = x.plainer();
        BENCH.due("plainer() is refused", answer == -1, !valid);
        if (answer <= 0) {
            BENCH.due("state behind plainer()", kept(x), before);
        }
    }

    private static void refusedText(BerkeleySieve x, boolean expression) {
        String before = kept(x);
        int answer = expression ? x.compile() : x.assemble();
        BENCH.due("tape behind a text", x.count(2), 0);
        BENCH.due("fault(0) tells it", x.fault(0) != 0, answer == -1);
        if (answer == -1) {
            BENCH.due("state behind a wrong text", kept(x), before);
        } else {
            BENCH.due("count(0) behind a text", x.count(0), answer);
        }
    }

    /** All that a refusal must leave. */
    private static String kept(BerkeleySieve x) {
        StringBuilder text = new StringBuilder(Bench.numbers(x));
        for (int what = 0; what < 26; what++) {
            text.append(' ').append(x.ran(what));
        }
        for (int i = 0; i < x.count(3); i++) {
            text.append(' ').append(x.out(i));
        }
        return text.append(' ').append(x.count(1)).toString();
    }
}
