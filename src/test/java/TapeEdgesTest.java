/**
 * The edges that promises 1, 2, 3 and 18 name, and the sentence "What is refused changes nothing but what
 * fault() tells": the last case that is allowed and the first one that isn't, on both sides.
 */
public final class TapeEdgesTest {
    private static final Bench BENCH = new Bench("TapeEdgesTest");
    private static final int LOWEST = Integer.MIN_VALUE;
    private static final int HIGHEST = Integer.MAX_VALUE;

    public static void main(String[] args) {
        newObject();
        twoObjects();
        highestFirst();
        fedBehind();
        moreThan4000();
        firstBytesAlone();
        notSoMany();
        countOthers();
        refusedCalls();
        refusedTexts();
        refusedKeepsTheTape();
        BENCH.finish();
    }

    private static void newObject() {
        BENCH.says("No PROGRAM, the PACKET, TAPE, OUT are empty");
        BerkeleySieve x = new BerkeleySieve();
        for (int what = 0; what < 4; what++) {
            BENCH.due("count(" + what + ")", x.count(what), 0);
        }
        BENCH.due("why()", x.why(), 7);
        BENCH.due("out(0)", x.out(0), -1);
        BENCH.due("insn(0, 0)", x.insn(0, 0), -1);
        BENCH.due("end(1)", x.end(1), false);
        BENCH.due("end(0)", x.end(0), true);
        BENCH.due("packet()", x.packet(), 0);
        BENCH.due("assemble()", x.assemble(), 0);
        BENCH.due("NONE", BerkeleySieve.NONE, -1);
    }

    private static void twoObjects() {
        BENCH.says("No PROGRAM, the PACKET, TAPE, OUT are empty");
        BerkeleySieve x = new BerkeleySieve();
        x.put(6, 0, 0, 5);
        x.run();
        x.write(0);
        Bench.packet(x, 1, 2, 3);
        Bench.assemble(x, "foo");
        x.feed(1, 2, 3, 4, 5);
        BerkeleySieve y = new BerkeleySieve();
        for (int what = 0; what < 4; what++) {
            BENCH.due("count(" + what + ") of another", y.count(what), 0);
        }
        BENCH.due("ran(0) of another", y.ran(0), 0);
        BENCH.due("fault of another", Bench.fault(y), "0@-1");
        BENCH.due("count(0) of the first", x.count(0), 1);
    }

    /** The bytes of the packet; the program is lost. */
    private static String bytes(BerkeleySieve x) {
        StringBuilder text = new StringBuilder();
        int size = x.count(1);
        for (int place = 0; place < size; place++) {
            x.clear();
            x.put(0x30, 0, 0, place);
            x.put(0x16, 0, 0, 0);
            x.run();
            text.append(text.length() == 0 ? "" : " ").append(x.ran(0));
        }
        return text.toString();
    }

    private static void highestFirst() {
        BENCH.says("Twenty BYTES come behind those on the TAPE, of each number the highest first");
        BerkeleySieve x = new BerkeleySieve();
        BENCH.due("feed()", x.feed(0x00010203, 0x7f808182, 0xfffefdfc, 0x80000000, -1), 20);
        x.packet();
        BENCH.due("the bytes", bytes(x), "0 1 2 3 127 128 129 130 255 254 253 252 128 0 0 0 255 255 255 255");
    }

    private static void fedBehind() {
        BENCH.says("Twenty BYTES come behind those on the TAPE");
        BerkeleySieve x = new BerkeleySieve();
        x.feed(0x01020304, 0x05060708, 0, 0, 0);
        x.end(7);
        BENCH.due("feed() behind seven", x.feed(0x11121314, 0, 0, 0, 0x15161718), 27);
        x.packet();
        BENCH.due("the bytes", bytes(x), "1 2 3 4 5 6 7 17 18 19 20 0 0 0 0 0 0 0 0 0 0 0 0 21 22 23 24");
    }

    private static BerkeleySieve fed(int bytes) {
        BerkeleySieve x = new BerkeleySieve();
        for (int n = 20; n < bytes + 20; n += 20) {
            BENCH.due("feed() to " + n, x.feed(n, n, n, n, n), n);
        }
        BENCH.due("end(" + bytes + ")", x.end(bytes), true);
        return x;
    }

    private static void moreThan4000() {
        BENCH.says("how many there are; NONE when there would be more than 4000");
        for (int bytes : new int[] {0, 1, 3979, 3980, 3981, 3982, 3999, 4000}) {
            BerkeleySieve x = fed(bytes);
            boolean fits = bytes <= 3980;
            BENCH.due("feed() behind " + bytes, x.feed(1, 2, 3, 4, 5), fits ? bytes + 20 : -1);
            BENCH.due("count(2) behind it", x.count(2), fits ? bytes + 20 : bytes);
            BENCH.due("feed() again", x.feed(1, 2, 3, 4, 5), bytes <= 3960 ? bytes + 40 : -1);
            BENCH.due("end(4001)", x.end(4001), false);
        }
        BerkeleySieve x = fed(4000);
        BENCH.due("feed() behind 4000", x.feed(1, 1, 1, 1, 1), -1);
        BENCH.due("end(4000)", x.end(4000), true);
        BENCH.due("end(3980)", x.end(3980), true);
        BENCH.due("feed() behind 3980", x.feed(1, 1, 1, 1, 1), 4000);
    }

    private static void firstBytesAlone() {
        BENCH.says("The TAPE has its first n BYTES alone: true");
        for (int n : new int[] {0, 1, 19, 20}) {
            BerkeleySieve x = new BerkeleySieve();
            x.feed(0x01020304, 0x05060708, 0x090a0b0c, 0x0d0e0f10, 0x11121314);
            BENCH.due("end(" + n + ") of 20", x.end(n), true);
            BENCH.due("count(2)", x.count(2), n);
            BENCH.due("end(" + n + ") again", x.end(n), true);
            BENCH.due("packet()", x.packet(), n);
            StringBuilder due = new StringBuilder();
            for (int i = 1; i <= n; i++) {
                due.append(i == 1 ? "" : " ").append(i);
            }
            BENCH.due("the bytes", bytes(x), due.toString());
        }
    }

    private static void notSoMany() {
        BENCH.says("false when it has not so many, or n is below 0");
        for (int size : new int[] {0, 1, 20, 4000}) {
            BerkeleySieve x = fed(size);
            for (int n : new int[] {-1, -2, size + 1, size + 2, 4001, LOWEST, HIGHEST}) {
                BENCH.due("end(" + n + ") of " + size, x.end(n), false);
                BENCH.due("count(2) stays", x.count(2), size);
            }
            BENCH.due("end(" + size + ")", x.end(size), true);
            BENCH.due("end(0)", x.end(0), true);
            BENCH.due("count(2) then", x.count(2), 0);
            BENCH.due("end(1) then", x.end(1), false);
            BENCH.due("end(0) again", x.end(0), true);
        }
    }

    private static void countOthers() {
        BENCH.says("0 INSTRUCTIONS, 1 BYTES of the PACKET, 2 of the TAPE, 3 signs of OUT. NONE for others");
        BerkeleySieve x = new BerkeleySieve();
        for (int round = 0; round < 2; round++) {
            int[] due = round == 0 ? new int[] {0, 0, 0, 0} : new int[] {2, 3, 20, 5};
            for (int what = 0; what < 4; what++) {
                BENCH.due("count(" + what + ")", x.count(what), due[what]);
            }
            for (int what : new int[] {-1, -2, 4, 5, LOWEST, HIGHEST}) {
                BENCH.due("count(" + what + ")", x.count(what), -1);
            }
            x.put(0, 0, 0, 7);
            x.put(6, 0, 0, 7);
            Bench.packet(x, 1, 2, 3);
            x.feed(0, 0, 0, 0, 0);
            x.write(0);
        }
    }

    /** An object of which all there is to tell is told: one with a fault, or a valid one. */
    private static BerkeleySieve rich(boolean valid) {
        BerkeleySieve x = new BerkeleySieve();
        Bench.packet(x, 1, 2, 3, 4, 5);
        Bench.assemble(x, "\n\nfoo");
        x.put(1, 0, 0, 4);
        x.put(3, 0, 0, 15);
        x.put(0, 0, 0, 3);
        x.put(6, 0, 0, 5);
        x.run();
        x.write(1);
        if (!valid) {
            x.put(4, 7, 8, 0);
        }
        x.feed(0x01020304, 0x05060708, 0x090a0b0c, 0x0d0e0f10, 0x11121314);
        return x;
    }

    private static String state(BerkeleySieve x, boolean withFault) {
        StringBuilder text = new StringBuilder(Bench.numbers(x)).append(" |");
        for (int what = 0; what < 26; what++) {
            text.append(' ').append(x.ran(what));
        }
        text.append(" |");
        for (int i = 0; i < 12; i++) {
            text.append(' ').append(x.out(i));
        }
        text.append(" | ").append(x.count(1)).append(' ').append(x.count(3)).append(' ').append(x.bad()).append(' ').append(x.why());
        return text.append(withFault ? " | " + Bench.fault(x) + " " + x.count(2) : "").toString();
    }

    /** A call with its arguments; what it answers is a number, or 0 for false. */
    private static int call(BerkeleySieve x, String name, int... n) {
        switch (name) {
            case "end":
                return x.end(n[0]) ? 1 : 0;
            case "put":
                return x.put(n[0], n[1], n[2], n[3]);
            case "fault":
                return x.fault(n[0]);
            case "insn":
                return x.insn(n[0], n[1]);
            case "ran":
                return x.ran(n[0]);
            case "write":
                return x.write(n[0]);
            case "out":
                return x.out(n[0]);
            case "count":
                return x.count(n[0]);
            case "run":
                return x.run();
            default:
                return x.plainer();
        }
    }

    private static void refused(boolean valid, int answer, String name, int... n) {
        BerkeleySieve x = rich(valid);
        String before = state(x, true);
        String shown = name + java.util.Arrays.toString(n);
        BENCH.due(shown, call(x, name, n), answer);
        BENCH.due("state behind " + shown, state(x, true), before);
        x.packet();
        BENCH.due("the tape's bytes behind " + shown, bytes(x), "1 2 3 4 5 6 7 8 9 10 11 12 13 14 15 16 17 18 19 20");
    }

    private static void refusedCalls() {
        BENCH.says("What is refused changes nothing but what fault() tells");
        for (boolean valid : new boolean[] {true, false}) {
            refused(valid, 0, "end", -1);
            refused(valid, 0, "end", 21);
            refused(valid, -1, "put", -1, 0, 0, 0);
            refused(valid, -1, "put", 65536, 0, 0, 0);
            refused(valid, -1, "put", 0, -1, 0, 0);
            refused(valid, -1, "put", 0, 256, 0, 0);
            refused(valid, -1, "put", 0, 0, -1, 0);
            refused(valid, -1, "put", 0, 0, 256, 0);
            refused(valid, -1, "fault", 2);
            refused(valid, -1, "insn", 0, 4);
            refused(valid, -1, "insn", 9, 0);
            refused(valid, 0, "ran", 26);
            refused(valid, -1, "write", -1);
            refused(valid, -1, "write", 5);
            refused(valid, -1, "out", -1);
            refused(valid, -1, "count", 4);
        }
        refused(false, -1, "run");
        refused(false, -1, "plainer");
    }

    private static void refusedTexts() {
        BENCH.says("What is refused changes nothing but what fault() tells");
        String[] texts = {"ld=1@1", "foo=2@1", "a:\na:=3@2", "neg\nja b=4@2", "a:ja a=5@1", "neg\n".repeat(201) + "=6@201"};
        for (boolean valid : new boolean[] {true, false}) {
            for (String text : texts) {
                BerkeleySieve x = rich(valid);
                String before = state(x, false);
                BENCH.due("assemble()", Bench.assemble(x, text.substring(0, text.indexOf('='))), -1);
                BENCH.due("state behind " + text, state(x, false), before);
                BENCH.due("fault of " + text, Bench.fault(x), text.substring(text.indexOf('=') + 1));
            }
            for (String text : new String[] {"1= 7@2", "1=1) 7@3", "1" + "/0".repeat(17) + "=1 8@-1", "1" + "+1".repeat(197) + "=1 8@-1"}) {
                BerkeleySieve x = rich(valid);
                String before = state(x, false);
                BENCH.due("compile()", Bench.compile(x, text.substring(0, text.indexOf(' '))), -1);
                BENCH.due("state behind " + text, state(x, false), before);
                BENCH.due("fault of " + text, Bench.fault(x), text.substring(text.indexOf(' ') + 1));
            }
        }
    }

    private static void refusedKeepsTheTape() {
        BENCH.says("What is refused changes nothing but what fault() tells");
        // A tape that is too long for a packet, and one that is full.
        for (int size : new int[] {601, 620, 3981, 4000}) {
            BerkeleySieve x = fed(size);
            BENCH.due("packet() of " + size, x.packet(), -1);
            BENCH.due("count(2) behind packet()", x.count(2), size);
            BENCH.due("count(1) behind packet()", x.count(1), 0);
            if (size > 3980) {
                BENCH.due("feed() behind " + size, x.feed(9, 9, 9, 9, 9), -1);
                BENCH.due("count(2) behind feed()", x.count(2), size);
            }
            x.end(24);
            BENCH.due("packet() of 24", x.packet(), 24);
            BENCH.due("the bytes", bytes(x), "0 0 0 20 0 0 0 20 0 0 0 20 0 0 0 20 0 0 0 20 0 0 0 40");
        }
        BerkeleySieve x = new BerkeleySieve();
        for (int n = 0; n < 200; n++) {
            x.put(6, 0, 0, n);
        }
        BENCH.due("put() in a full program", x.put(7, 1, 1, 1), -1);
        BENCH.due("count(0)", x.count(0), 200);
        BENCH.due("the last one", x.insn(199, 3), 199);
        BENCH.due("the first one", x.insn(0, 3), 0);
        BENCH.due("why()", x.why(), 0);
    }
}
