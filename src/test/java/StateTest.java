/** Each call changes what its promise names, and leaves all else: program, packet, tape, OUT, the latest run and fault(). */
public final class StateTest {
    private static final Bench BENCH = new Bench("StateTest");
    private static final String[] PARTS = {"the program", "the packet", "the tape", "OUT", "the latest run", "what fault() tells"};
    private static final int PROGRAM = 0;
    private static final int PACKET = 1;
    private static final int TAPE = 2;
    private static final int OUT = 3;
    private static final int RUN = 4;
    private static final int FAULT = 5;

    private interface Call {
        int make(BerkeleySieve x);
    }

    public static void main(String[] args) {
        changes("feed", x -> x.feed(1, 2, 3, 4, 5), TAPE);
        changes("end", x -> x.end(3) ? 1 : 0, TAPE);
        changes("put", x -> x.put(6, 0, 0, 9), PROGRAM);
        changes("clear", x -> x.clear(), PROGRAM);
        changes("packet", x -> x.packet(), PACKET, TAPE);
        changes("run", x -> x.run(), RUN);
        changes("plainer", x -> x.plainer(), PROGRAM);
        changes("write", x -> x.write(3), OUT);
        changes("assemble", x -> x.assemble(), PROGRAM, TAPE, FAULT);
        changes("compile", x -> x.compile(), TAPE, FAULT);
        changes("why, bad", x -> x.why() + x.bad());
        changes("fault, insn, ran, out, count", x -> x.fault(0) + x.insn(0, 3) + x.ran(1) + x.out(0) + x.count(2));
        BENCH.finish();
    }

    private static void changes(String name, Call call, int... parts) {
        String[] before = parts(sieve());
        BerkeleySieve x = sieve();
        call.make(x);
        String[] behind = parts(x);
        for (int part = 0; part < PARTS.length; part++) {
            boolean named = false;
            for (int one : parts) {
                named |= one == part;
            }
            BENCH.due(name + " changes " + PARTS[part] + ": " + before[part] + " | " + behind[part],
                    !before[part].equals(behind[part]), named);
        }
    }

    /** Each part of it is another one than that of a new object, and each call above has something to do. */
    private static BerkeleySieve sieve() {
        BerkeleySieve x = new BerkeleySieve();
        Bench.compile(x, "1=");
        x.put(1, 0, 0, 4);
        x.put(3, 0, 0, 15);
        x.put(0, 0, 0, 3);
        x.put(6, 0, 0, 5);
        x.run();
        x.clear();
        x.put(0x80, 0, 0, 0);
        x.put(4, 0, 0, 0);
        x.put(2, 0, 0, 7);
        x.put(0x16, 0, 0, 0);
        x.write(1);
        Bench.packet(x, 1, 2, 3, 4, 5);
        Bench.tape(x, "ret #1");
        return x;
    }

    /** What there is of each part; the tape is read as a packet at last. */
    private static String[] parts(BerkeleySieve x) {
        String[] parts = new String[PARTS.length];
        parts[PROGRAM] = Bench.numbers(x);
        StringBuilder out = new StringBuilder();
        for (int i = 0; i < x.count(3); i++) {
            out.append((char) x.out(i));
        }
        parts[OUT] = out.toString();
        StringBuilder run = new StringBuilder();
        for (int what = 0; what < 26; what++) {
            run.append(x.ran(what)).append(' ');
        }
        parts[RUN] = run.toString();
        parts[FAULT] = Bench.fault(x);
        parts[PACKET] = bytes(x);
        x.packet();
        parts[TAPE] = bytes(x);
        return parts;
    }

    private static String bytes(BerkeleySieve x) {
        StringBuilder text = new StringBuilder();
        int size = x.count(1);
        for (int place = 0; place < size; place++) {
            x.clear();
            x.put(0x30, 0, 0, place);
            x.put(0x16, 0, 0, 0);
            x.run();
            text.append(x.ran(0)).append(' ');
        }
        return text.toString();
    }
}
