import java.util.Random;

/** An object that has been used answers as a new one does: nothing of an earlier call is left over. */
public final class AgainTest {
    private static final Bench BENCH = new Bench("AgainTest");
    private static final String[] TEXTS = {"a: ret a", "a: neg\nret a", "a: neg\nneg\nret #1", "ret a\nld M[0]\nret a",
        "neg\nneg\nld M[1]\nret a", "foo", "neg\nfoo", "neg\nneg\na:\na:", "ja a\nneg\na:ret a", "ja b\na:ret a", "ld [0]\nret a",
        "ldh [0]\nst M[3]\nret a", "ldx 4*([0]&0xf)\nstx M[1]\nret a", "ld [600]\nret a", "div x\nret a", "ret a\nneg\nret a",
        "jeq #1,b,c\nb:ja d\nc:add #0\nd:ret a", "neg\nadd #0\nld #1\nld #2\nret a", "jeq #1,b\nret #1\nneg\nb:ret a", "",
        "st M[0]\njeq #0,b\nst M[1]\nb:ld M[0]\nret a", "jeq #0,b\nst M[1]\nb:ld M[1]\nret a", "ld", "st M[16]\nret a"};
    private static final String[] EXPRESSIONS = {"1=1", "len>3", "not (len=1 or [0]=2)", "1-[1]-[2]=[0]", "1=", "x", "((1", "[len:2]<3",
        "1" + "-[1]".repeat(17) + "=1", "1" + "+1".repeat(197) + "=1", " ".repeat(401), "", "len=0xffffffff and len!=2 or [1]>=3"};

    public static void main(String[] args) {
        Random random = new Random(3);
        for (int n = 0; n < 4000; n++) {
            BerkeleySieve used = new BerkeleySieve();
            String story = "";
            // Five rounds stay below the 512 calls of an object.
            for (int round = 0; round < 5; round++) {
                boolean expression = random.nextInt(3) == 0;
                String[] texts = expression ? EXPRESSIONS : TEXTS;
                String text = texts[random.nextInt(texts.length)];
                int[] bytes = new int[random.nextInt(5)];
                for (int i = 0; i < bytes.length; i++) {
                    bytes[i] = random.nextInt(256);
                }
                boolean plainer = random.nextBoolean();
                story += " | " + text;
                used.clear();
                BENCH.due("behind" + story, done(used, text, expression, bytes, plainer),
                        done(new BerkeleySieve(), text, expression, bytes, plainer));
            }
        }
        BENCH.finish();
    }

    private static String done(BerkeleySieve x, String text, boolean expression, int[] bytes, boolean plainer) {
        StringBuilder answers = new StringBuilder();
        answers.append(expression ? Bench.compile(x, text) : Bench.assemble(x, text)).append(' ').append(Bench.fault(x));
        answers.append(' ').append(x.bad()).append(' ').append(x.why());
        answers.append(' ').append(Bench.packet(x, bytes)).append(' ').append(x.count(2));
        answers.append(' ').append(plainer ? x.plainer() : 0);
        answers.append(' ').append(x.count(0) < 30 ? Bench.numbers(x) : "");
        int ran = x.run();
        answers.append(' ').append(ran);
        for (int what = 0; what < 26 && ran >= 0; what++) {
            answers.append(' ').append(x.ran(what));
        }
        return answers.append(' ').append(x.write(0) < 0 ? -1 : x.out(0)).toString();
    }
}
