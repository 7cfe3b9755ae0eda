import java.nio.charset.StandardCharsets;

/** What the tests share: answers that are due, and texts that go on the tape. */
final class Bench {
    private final String name;
    private String sentence = "";
    private int checks;
    private int wrong;

    Bench(String name) {
        this.name = name;
    }

    /** Makes an object anew, since nothing is promised of one that has been asked too often. */
    interface Made {
        BerkeleySieve make();
    }

    /** The sentence of the document that the answers from here on are due to. */
    void says(String words) {
        sentence = " (\"" + words + "\")";
    }

    void due(String call, long got, long want) {
        checks++;
        if (got != want) {
            wrong++;
            System.out.println(name + sentence + ": " + call + " answered " + got + ", due is " + want);
        }
    }

    void due(String call, boolean got, boolean want) {
        due(call, got ? 1 : 0, want ? 1 : 0);
    }

    void due(String call, String got, String want) {
        checks++;
        if (!got.equals(want)) {
            wrong++;
            System.out.println(name + sentence + ": " + call + " answered\n  " + got + "\n  due is\n  " + want);
        }
    }

    void finish() {
        System.out.println(name + ": " + checks + " answers, " + wrong + " of them wrong");
        if (wrong != 0) {
            System.exit(1);
        }
    }

    /** Puts a text on the tape in place of what it had. */
    static void tape(BerkeleySieve sieve, byte[] text) {
        sieve.end(0);
        for (int at = 0; at < text.length; at += 20) {
            int[] five = new int[5];
            for (int i = 0; i < 20; i++) {
                int sign = at + i < text.length ? text[at + i] & 255 : 0;
                five[i / 4] = five[i / 4] << 8 | sign;
            }
            sieve.feed(five[0], five[1], five[2], five[3], five[4]);
        }
        sieve.end(text.length);
    }

    static void tape(BerkeleySieve sieve, String text) {
        tape(sieve, text.getBytes(StandardCharsets.ISO_8859_1));
    }

    static int assemble(BerkeleySieve sieve, String text) {
        tape(sieve, text);
        return sieve.assemble();
    }

    static int compile(BerkeleySieve sieve, String text) {
        tape(sieve, text);
        return sieve.compile();
    }

    static int packet(BerkeleySieve sieve, int... bytes) {
        byte[] row = new byte[bytes.length];
        for (int i = 0; i < bytes.length; i++) {
            row[i] = (byte) bytes[i];
        }
        tape(sieve, row);
        return sieve.packet();
    }

    /** "7@3": what fault() tells. */
    static String fault(BerkeleySieve sieve) {
        return sieve.fault(0) + "@" + sieve.fault(1);
    }

    static String written(BerkeleySieve sieve, int i) {
        int signs = sieve.write(i);
        StringBuilder text = new StringBuilder();
        for (int at = 0; at < signs; at++) {
            text.append((char) sieve.out(at));
        }
        return text.toString();
    }

    private static String numbers(BerkeleySieve sieve, int i) {
        return Integer.toHexString(sieve.insn(i, 0)) + " " + sieve.insn(i, 1) + " " + sieve.insn(i, 2) + " "
                + Integer.toUnsignedString(sieve.insn(i, 3));
    }

    /** All instructions as numbers: "CODE JT JF K; ..". */
    static String numbers(BerkeleySieve sieve) {
        return numbers(() -> sieve);
    }

    /** The same of a long program: an object is asked for some fifty of its instructions alone. */
    static String numbers(Made made) {
        BerkeleySieve sieve = made.make();
        int count = sieve.count(0);
        StringBuilder text = new StringBuilder();
        for (int i = 0; i < count; i++) {
            sieve = i > 0 && i % 50 == 0 ? made.make() : sieve;
            text.append(i == 0 ? "" : "; ").append(numbers(sieve, i));
        }
        return text.toString();
    }

    /** All instructions written: "ld #1; ret a". */
    static String listing(BerkeleySieve sieve) {
        int count = sieve.count(0);
        StringBuilder text = new StringBuilder();
        for (int i = 0; i < count; i++) {
            text.append(i == 0 ? "" : "; ").append(written(sieve, i));
        }
        return text.toString();
    }

    /** A new object whose program has these rows of CODE, JT, JF and K. */
    static BerkeleySieve program(int[]... rows) {
        BerkeleySieve sieve = new BerkeleySieve();
        for (int[] row : rows) {
            sieve.put(row[0], row[1], row[2], row[3]);
        }
        return sieve;
    }

    static int[] row(int code, int jt, int jf, int k) {
        return new int[] {code, jt, jf, k};
    }

    static int[] row(int code, int k) {
        return row(code, 0, 0, k);
    }

    /** A new object whose program is that of the text. */
    static BerkeleySieve assembled(String text) {
        BerkeleySieve sieve = new BerkeleySieve();
        assemble(sieve, text);
        return sieve;
    }

    static BerkeleySieve compiled(String text) {
        BerkeleySieve sieve = new BerkeleySieve();
        compile(sieve, text);
        return sieve;
    }
}
