/**
 * The edges that term 4 and promises 6, 8, 16 and 17 name, a test for each sentence: the last case that is
 * allowed and the first one that isn't, on both sides where there are two.
 */
public final class TextEdgesTest {
    private static final Bench BENCH = new Bench("TextEdgesTest");
    private static final String NEGS_199 = "neg\n".repeat(199);
    private static final String NEGS_200 = "neg\n".repeat(200);

    public static void main(String[] args) {
        emptyTape();
        textsOf4000();
        linesEnd();
        countedFrom1();
        blanksBetween();
        noOtherBlanks();
        semicolonEnds();
        whatALineHas();
        labelsOf8Signs();
        labelsTooLong();
        labelsStandFor();
        tokensAreLong();
        wordsBegin();
        decimalNumbers();
        hexadecimalNumbers();
        headerWrittenSo();
        secondLabel();
        programStays();
        noNames();
        toldTwice();
        notTold();
        jumpBack();
        farthestJumps();
        the201st();
        firstLine();
        firstFromTheLeft();
        sixBehindOthers();
        fourAheadOfFive();
        faultOthers();
        writtenNumbers();
        writtenJumps();
        writtenLabels();
        writtenCodes();
        writeNoneSuch();
        outWithout();
        BENCH.finish();
    }

    private static void right(String text, String due) {
        BerkeleySieve x = new BerkeleySieve();
        int count = Bench.assemble(x, text);
        BENCH.due("fault of " + text, Bench.fault(x), "0@-1");
        BENCH.due("program of " + text, Bench.numbers(() -> Bench.assembled(text)), due);
        BENCH.due("assemble() of " + text, count, due.isEmpty() ? 0 : due.split(";").length);
        BENCH.due("tape behind " + text, x.count(2), 0);
    }

    private static void wrong(String text, String due) {
        BerkeleySieve x = Bench.program(Bench.row(6, 1, 2, 3));
        BENCH.due("assemble() of " + text, Bench.assemble(x, text), -1);
        BENCH.due("fault of " + text, Bench.fault(x), due);
        BENCH.due("the program stays at " + text, Bench.numbers(x), "6 1 2 3");
        BENCH.due("tape behind " + text, x.count(2), 0);
    }

    private static void emptyTape() {
        BENCH.says("The PROGRAM is what the TAPE (which is empty then) tells as text: how many INSTRUCTIONS");
        BerkeleySieve x = Bench.program(Bench.row(6, 0));
        BENCH.due("assemble() of an empty tape", x.assemble(), 0);
        BENCH.due("count(0) behind it", x.count(0), 0);
        BENCH.due("fault of it", Bench.fault(x), "0@-1");
        BENCH.due("assemble() of one", Bench.assemble(x, "ret a"), 1);
        BENCH.due("count(2) behind it", x.count(2), 0);
        BENCH.due("assemble() of the tape that is empty then", x.assemble(), 0);
        BENCH.due("count(0) then", x.count(0), 0);
    }

    private static void textsOf4000() {
        BENCH.says("TEXTS have at most 4000 BYTES");
        String blanks = " ".repeat(3995);
        right(blanks + "ret a", "16 0 0 0");
        right("ret a" + blanks, "16 0 0 0");
        wrong(blanks + "ret b", "1@1");
        wrong("ret a" + blanks.substring(1) + "$", "1@1");
        right("ret a;" + "$".repeat(3994), "16 0 0 0");
        right("ld #" + "0".repeat(3995) + "7", "0 0 0 7");
        wrong("a".repeat(4000), "2@1");
        wrong("a".repeat(3999) + ":", "1@1");
    }

    private static void linesEnd() {
        BENCH.says("LINES end at BYTES 10 (the last one at the end)");
        right("\n", "");
        right("ret a\n", "16 0 0 0");
        right("ret a\nret a", "16 0 0 0; 16 0 0 0");
        right("\nret a\n\n", "16 0 0 0");
        wrong("ret\na", "1@1");
        wrong("ld #\n1", "1@1");
        wrong("a\n:", "2@1");
        wrong("ret a ret a", "1@1");
        for (char sign : new char[] {9, 11, 13, 0, 138}) {
            wrong("ret a" + sign + "ret a", "1@1");
        }
    }

    private static void countedFrom1() {
        BENCH.says("counted from 1");
        wrong("$", "1@1");
        wrong("\n$", "1@2");
        wrong("ret a\n;\n$", "1@3");
        wrong("$\n\n\n", "1@1");
        wrong("\n".repeat(3998) + "$ ", "1@3999");
        wrong("\n".repeat(3999) + "$", "1@4000");
        wrong("\n".repeat(3999) + "z", "2@4000");
        right("\n".repeat(4000), "");
    }

    private static void blanksBetween() {
        BENCH.says("blanks (32) may stand between any two TOKENS");
        right("l : ld [ x + 1 ]", "40 0 0 1");
        right("  l  :  ldh  [  x  +  1  ]  ", "48 0 0 1");
        right("ld#1", "0 0 0 1");
        right("ld M [ 1 ]", "60 0 0 1");
        right("ldx 4 * ( [ 1 ] & 0xf )", "b1 0 0 1");
        right("ldx4:ldx 4*([1]&0xf)", "b1 0 0 1");
        right("jeq # 1 , e , f\ne : f : ret a".replace("e : f", "e:\nf"), "15 0 0 1; 16 0 0 0");
        right("jset x,e,e\ne:ret a", "4d 0 0 0; 16 0 0 0");
        right("ret#1", "6 0 0 1");
        right("    ", "");
        wrong("re t a", "2@1");
        wrong("ld #1 0", "1@1");
        wrong("ld #0 x1", "1@1");
        wrong("ld l en", "1@1");
        wrong("reta", "2@1");
        wrong("ldlen", "2@1");
        wrong("jaa", "2@1");
    }

    private static void noOtherBlanks() {
        BENCH.says("1 what can't stand there");
        for (char sign : new char[] {0, 9, 11, 12, 13, 31, 33, 127, 128, 160, 255}) {
            wrong(sign + "ret a", "1@1");
            wrong("ret" + sign + "a", "1@1");
            wrong("ret a" + sign, "1@1");
        }
    }

    private static void semicolonEnds() {
        BENCH.says("a ; ends what matters in a LINE");
        right(";", "");
        right("; $ a: a:\n;", "");
        right("ret a;$", "16 0 0 0");
        right("ret a ; ; ld\nret #1", "16 0 0 0; 6 0 0 1");
        right("a:;$", "");
        wrong("ret ; a", "1@1");
        wrong("ld # ; 1", "1@1");
        wrong("a ; :", "2@1");
        wrong("; ok\n$", "1@2");
    }

    private static void whatALineHas() {
        BENCH.says("LINE: [LABEL :] [instruction]");
        right("", "");
        right("a:", "");
        right("ret a", "16 0 0 0");
        right("a: ret a", "16 0 0 0");
        right("a:\nb:\nret a", "16 0 0 0");
        wrong(":", "1@1");
        wrong(": ret a", "1@1");
        wrong("a: : ret a", "1@1");
        wrong("a: b: ret a", "2@1");
        wrong("ret a a: ", "1@1");
        wrong("ret a, ret a", "1@1");
        wrong("tax txa", "1@1");
    }

    private static void labelsOf8Signs() {
        BENCH.says("LABEL: a WORD of at most 8 signs");
        for (String label : new String[] {"a", "z", "a0", "a9", "abcdefg", "abcdefgh", "a1234567", "zzzzzzzz", "z9999999"}) {
            right("ja " + label + "\n" + label + ":ret a", "5 0 0 0; 16 0 0 0");
            right("jeq x," + label + "," + label + "\n" + label + " :ret a", "1d 0 0 0; 16 0 0 0");
        }
        // All signs count, the last of eight too.
        right("ja abcdefgi\nneg\nabcdefgh:neg\nabcdefgi:ret a", "5 0 0 2; 84 0 0 0; 84 0 0 0; 16 0 0 0");
        right("ja zzzzzzz9\nneg\nzzzzzzzz:neg\nzzzzzzz9:ret a", "5 0 0 2; 84 0 0 0; 84 0 0 0; 16 0 0 0");
        right("ja a\naa:neg\na:ret a", "5 0 0 1; 84 0 0 0; 16 0 0 0");
        right("ja a0\na:neg\na0:ret a", "5 0 0 1; 84 0 0 0; 16 0 0 0");
    }

    private static void labelsTooLong() {
        BENCH.says("(a LABEL that is too long, too, when its : is come to)");
        for (String label : new String[] {"abcdefghi", "a12345678", "abcdefghijklmnopqrstuvwxyz"}) {
            wrong(label + ":", "1@1");
            wrong("ret a\n" + label + " : ret a", "1@2");
            wrong(label + ": foo", "1@1");
            wrong(label, "2@1");
            wrong(label + " ret a", "2@1");
            wrong(label + " ; :", "2@1");
            wrong(label + " $ :", "2@1");
            wrong(label + ":\n" + label + ":", "1@1");
        }
    }

    private static void labelsStandFor() {
        BENCH.says("it stands for the next instruction (or for the end)");
        right("ja a\na: ret a", "5 0 0 0; 16 0 0 0");
        right("ja a\na:\n\n;\nb:\nret a", "5 0 0 0; 16 0 0 0");
        right("ja a\nret a\na:", "5 0 0 1; 16 0 0 0");
        right("ja a\na:", "5 0 0 0");
        right("jgt #5,b,a\nret a\na:\nb:\n", "25 1 1 5; 16 0 0 0");
        BerkeleySieve x = Bench.assembled("neg\nja e\nret a\ne:");
        BENCH.due("bad() of a jump to the end", x.bad(), 1);
        BENCH.due("why() of a jump to the end", x.why(), 2);
    }

    private static void tokensAreLong() {
        BENCH.says("TOKENS are as long as can be");
        wrong("ldx", "1@1");
        wrong("ld5 #1", "2@1");
        wrong("ret a1", "1@1");
        wrong("ret #1a", "1@1");
        wrong("ld #0x1g", "1@1");
        wrong("ld [x1+1]", "1@1");
        wrong("add x5", "1@1");
        right("jeq x,x1\nx1:ret a", "1d 0 0 0; 16 0 0 0");
        right("ja len5\nlen5:ret a", "5 0 0 0; 16 0 0 0");
    }

    private static void wordsBegin() {
        BENCH.says("WORDS (small letters and digits, a letter first)");
        right("a:\nz:\na0:\na9:\nz0z:", "");
        for (String bad : new String[] {"0a:", "9:", "A:", "aB:", "Z:", "`:", "{:", "a`:", "a{:", "a_:", "@:", "a/:", "\u00e4:", "M:"}) {
            wrong(bad, bad.charAt(0) == 'a' ? "2@1" : "1@1");
        }
        wrong("ja 1a\na:", "1@1");
        wrong("RET a", "1@1");
        wrong("ret A", "1@1");
        wrong("ld m[1]", "1@1");
    }

    private static void decimalNumbers() {
        BENCH.says("4294967295 at most");
        String[] places = {"ld #%s=0", "ld [%s]=20", "ldb [x+%s]=50", "ld M[%s]=60", "ldx 4*([%s]&0xf)=b1", "add #%s=4", "ret #%s=6"};
        for (String place : places) {
            String text = place.substring(0, place.indexOf('='));
            String code = place.substring(place.indexOf('=') + 1);
            for (String number : new String[] {"0", "1", "9", "10", "2147483647", "2147483648", "4294967294", "4294967295"}) {
                right(text.replace("%s", number), code + " 0 0 " + number);
                right(text.replace("%s", "000" + number), code + " 0 0 " + number);
            }
            for (String number : new String[] {"4294967296", "4294967300", "5000000000", "9999999999", "42949672950", "04294967296",
                    "18446744073709551616", "18446744073709551617", "340282366920938463463374607431768211457", "", "-1", "+1"}) {
                wrong(text.replace("%s", number), "1@1");
            }
        }
        right("jeq #4294967295,e\ne:ret a", "15 0 0 4294967295; 16 0 0 0");
        wrong("jeq #4294967296,e\ne:ret a", "1@1");
    }

    private static void hexadecimalNumbers() {
        BENCH.says("0x and 1 to 8 digits 0 .. 9, a .. f (0x without them, or with more, is no TOKEN)");
        String[][] due = {{"0x0", "0"}, {"0x9", "9"}, {"0xa", "10"}, {"0xf", "15"}, {"0x10", "16"}, {"0x0000000", "0"},
            {"0x00000001", "1"}, {"0x89abcdef", "2309737967"}, {"0x7fffffff", "2147483647"}, {"0x80000000", "2147483648"},
            {"0xffffffff", "4294967295"}};
        for (String[] pair : due) {
            right("ld #" + pair[0], "0 0 0 " + pair[1]);
            right("ld [x+" + pair[0] + "]", "40 0 0 " + pair[1]);
        }
        for (String number : new String[] {"0x", "0x ", "0x 1", "0x000000000", "0x000000001", "0xfffffffff", "0x123456789a", "0xg",
                "0x1g", "0xA", "0xaF", "0X1", "00x1", "1x1", "x1", "0x-1", "0x/", "0x:", "0x`"}) {
            wrong("ld #" + number, "1@1");
            wrong("ld M[" + number + "]", "1@1");
        }
    }

    private static void headerWrittenSo() {
        BENCH.says("\"4*([k]&0xf)\" (with just these numbers, written so)");
        right("ldx 4*([0]&0xf)", "b1 0 0 0");
        right("ldx 4*([0xf]&0xf)", "b1 0 0 15");
        right("ldx 4*([4294967295]&0xf)", "b1 0 0 4294967295");
        for (String bad : new String[] {"3*([1]&0xf)", "5*([1]&0xf)", "04*([1]&0xf)", "0x4*([1]&0xf)", "44*([1]&0xf)", "4*([1]&15)",
                "4*([1]&0x0f)", "4*([1]&0xe)", "4*([1]&0xff)", "4*([1]&f)", "4*([1]&0xf", "4*[1]&0xf)", "4*(1&0xf)", "4*([1]&0xf))",
                "4*([1]&0xfg)", "4*([x+1]&0xf)", "4*(M[1]&0xf)"}) {
            wrong("ldx " + bad, "1@1");
        }
    }

    private static void secondLabel() {
        BENCH.says("and perhaps \",\" LABEL (without it, that goes to the next one)");
        right("jeq #1,e\nneg\ne:ret a", "15 1 0 1; 84 0 0 0; 16 0 0 0");
        right("jeq #1,e,e\nneg\ne:ret a", "15 1 1 1; 84 0 0 0; 16 0 0 0");
        right("jeq #1,n,e\nn:neg\ne:ret a", "15 0 1 1; 84 0 0 0; 16 0 0 0");
        right("jeq x,e\ne:", "1d 0 0 0");
        wrong("jeq #1,e,\ne:", "1@1");
        wrong("jeq #1,e,e,e\ne:", "1@1");
        wrong("jeq #1\ne:", "1@1");
        wrong("ja e,e\ne:", "1@1");
        wrong("ja\ne:", "1@1");
    }

    private static void programStays() {
        BENCH.says("NONE with an ERROR (the PROGRAM stays)");
        String[] texts = {"ld", "foo", "a:\na:", "ja b", "a:ja a", NEGS_200 + "neg"};
        for (int n = 0; n < texts.length; n++) {
            BerkeleySieve x = Bench.program(Bench.row(0, 1), Bench.row(6, 2, 3, 4));
            BENCH.due("assemble() with ERROR " + (n + 1), Bench.assemble(x, texts[n]), -1);
            BENCH.due("fault(0)", x.fault(0), n + 1);
            BENCH.due("the program", Bench.numbers(x), "0 0 0 1; 6 2 3 4");
            BENCH.due("count(2)", x.count(2), 0);
            BENCH.due("assemble() of a right one", Bench.assemble(x, "ret #9"), 1);
            BENCH.due("the program then", Bench.numbers(x), "6 0 0 9");
            BENCH.due("fault then", Bench.fault(x), "0@-1");
        }
    }

    private static void noNames() {
        BENCH.says("2 a WORD (without : where a LABEL may stand) that is no name of an instruction");
        for (String word : new String[] {"l", "lda", "ldxx", "s", "sta", "ad", "adds", "o", "ors", "ands", "ne", "negs", "j", "jne",
                "jeqs", "jse", "jsets", "re", "rets", "taxa", "tx", "x", "a", "len", "m"}) {
            wrong(word, "2@1");
            wrong(word + " #1", "2@1");
            wrong("q: " + word, "2@1");
            wrong("q: " + word + ":", "2@1");
            right(word + ":", "");
            right(word + ": ret a", "16 0 0 0");
        }
        // The names may be LABELS.
        for (String word : new String[] {"ld", "ret", "ja", "jset", "tax"}) {
            right(word + ": ret a", "16 0 0 0");
            wrong("q: " + word + ": ret a", "1@1");
        }
    }

    private static void toldTwice() {
        BENCH.says("3 a LABEL told twice");
        wrong("a:\na:", "3@2");
        wrong("a: ret a\n\nb:\na: ret a", "3@4");
        wrong("abcdefgh:\nabcdefgh:", "3@2");
        right("a:\naa:\nb:\na0:\na1:\nabcdefgh:\nabcdefgi:", "");
        right("a: ja b\nb: ja c\nc: ret a", "5 0 0 0; 5 0 0 0; 16 0 0 0");
        StringBuilder many = new StringBuilder();
        for (int n = 0; n < 936; n++) {
            many.append((char) ('a' + n / 36)).append(Character.forDigit(n % 36, 36)).append(":\n");
        }
        right(many.toString(), "");
        wrong(many + "a0:", "3@937");
        wrong(many + "zz:", "3@937");
        right("ja zz\nret a\n" + many, "5 0 0 1; 16 0 0 0");
    }

    private static void notTold() {
        BENCH.says("4 one that is not told");
        wrong("ja a", "4@1");
        wrong("ja a\nb:", "4@1");
        wrong("ja a\naa:\nb:", "4@1");
        wrong("ja aa\na:", "4@1");
        wrong("ret a\njeq #1,a", "4@2");
        wrong("jeq #1,a,b\na:", "4@1");
        wrong("jeq #1,b,a\na:", "4@1");
        wrong("ja a ; a:", "4@1");
        right("jeq #1,a,b\na:\nb:", "15 0 0 1");
    }

    private static void jumpBack() {
        BENCH.says("5 a jump back, or of JT, JF above 255");
        wrong("a: ja a", "5@1");
        wrong("a: neg\nja a", "5@2");
        wrong("a:\nja a", "5@2");
        right("ja a\na:", "5 0 0 0");
        right("neg\nja a\na:ret a", "84 0 0 0; 5 0 0 0; 16 0 0 0");
        for (String jump : new String[] {"jeq #1", "jset x"}) {
            String code = jump.equals("jeq #1") ? "15 0 0 1" : "4d 0 0 0";
            wrong("a: " + jump + ",a", "5@1");
            wrong("a: " + jump + ",b,a\nb:", "5@1");
            wrong("a: " + jump + ",a,b\nb:", "5@1");
            wrong("a: neg\n" + jump + ",b,a\nb:", "5@2");
            right(jump + ",b,b\nb:", code);
        }
    }

    private static void farthestJumps() {
        BENCH.says("5 a jump back, or of JT, JF above 255");
        // 200 instructions leave no room for a jump above 199.
        String negs = NEGS_199;
        BerkeleySieve x = Bench.assembled("jeq #1,e\n" + negs + "e:");
        BENCH.due("JT over 199", x.insn(0, 1), 199);
        BENCH.due("JF then", x.insn(0, 2), 0);
        x = Bench.assembled("jeq #1,b,e\nb:" + negs + "e:");
        BENCH.due("JF over 199", x.insn(0, 2), 199);
        BENCH.due("JT then", x.insn(0, 1), 0);
        x = Bench.assembled("ja e\n" + negs + "e:");
        BENCH.due("K over 199", x.insn(0, 3), 199);
    }

    private static void the201st() {
        BENCH.says("6 the 201st instruction");
        BerkeleySieve x = new BerkeleySieve();
        BENCH.due("assemble() of 199", Bench.assemble(x, NEGS_199), 199);
        x = new BerkeleySieve();
        BENCH.due("assemble() of 200", Bench.assemble(x, NEGS_200), 200);
        BENCH.due("fault of 200", Bench.fault(x), "0@-1");
        x = new BerkeleySieve();
        BENCH.due("assemble() of 200 and a label", Bench.assemble(x, NEGS_200 + "\n;\ne:\n"), 200);
        wrong(NEGS_200 + "neg", "6@201");
        wrong(NEGS_200 + "\n\ne: neg", "6@203");
        wrong("neg\n".repeat(300), "6@201");
        wrong("\n" + NEGS_200 + "ret a\n", "6@202");
    }

    private static void firstLine() {
        BENCH.says("It is the first LINE that has one of 1, 2, 3, 6");
        String[] early = {"1$", "2foo", "3a:"};
        for (String one : early) {
            for (String two : early) {
                wrong("a:\n" + one.substring(1) + "\n" + two.substring(1), one.charAt(0) + "@2");
            }
            wrong("a:\n" + one.substring(1) + "\n" + NEGS_200 + "neg", one.charAt(0) + "@2");
            wrong("a:\n" + NEGS_200 + "neg\n" + one.substring(1), "6@202");
            // 4 and 5 come behind them, though they stand before.
            wrong("a: ja a\nja q\n" + one.substring(1), one.charAt(0) + "@3");
        }
        wrong("a: ja a\nja q\n" + NEGS_199, "6@201");
    }

    private static void firstFromTheLeft() {
        BENCH.says("of these the first from the left");
        wrong("a:\na: foo", "3@2");
        wrong("a:\na: $", "3@2");
        wrong("a:\na: ld", "3@2");
        wrong("foo $", "2@1");
        wrong("b: foo $", "2@1");
        wrong("$ foo", "1@1");
        wrong("ld foo", "1@1");
        wrong("ret a foo", "1@1");
        wrong("abcdefghi: foo", "1@1");
    }

    private static void sixBehindOthers() {
        BENCH.says("6 behind all others");
        wrong(NEGS_200 + "neg $", "1@201");
        wrong(NEGS_200 + "ld", "1@201");
        wrong(NEGS_200 + "foo", "2@201");
        wrong("a:\n" + NEGS_200 + "a: neg", "3@202");
        wrong(NEGS_200 + "abcdefghi: neg", "1@201");
        wrong("a:\n" + NEGS_200 + "ja a", "6@202");
        wrong(NEGS_200 + "ja q", "6@201");
    }

    private static void fourAheadOfFive() {
        BENCH.says("else the first one with 4 or 5 (of one LINE 4 ahead of 5)");
        wrong("a: ja a\nja q", "5@1");
        wrong("ja q\na: ja a", "4@1");
        wrong("a: jeq #1,a,q", "4@1");
        wrong("a: jeq #1,q,a", "4@1");
        wrong("ret a\nret a\na: jeq #1,a,q\nja q", "4@3");
        wrong("ja b\nb:\na: jeq #1,a,a\nja q", "5@3");
        wrong("ja b\nb:\na:\n\njeq #1,q,q\nja a", "4@5");
    }

    private static void faultOthers() {
        BENCH.says("Both 0 and NONE ahead of any. NONE for others");
        BerkeleySieve x = new BerkeleySieve();
        for (int round = 0; round < 2; round++) {
            BENCH.due("fault(0)", x.fault(0), round == 0 ? 0 : 2);
            BENCH.due("fault(1)", x.fault(1), round == 0 ? -1 : 3);
            for (int what : new int[] {-1, 2, 3, 7, 8, Integer.MIN_VALUE, Integer.MAX_VALUE}) {
                BENCH.due("fault(" + what + ")", x.fault(what), -1);
            }
            Bench.assemble(x, "\n\nfoo");
        }
        BENCH.says("0 the ERROR, 7 or 8 (0 if it was right), 1 the LINE, or the place (of 8, and if it was right: NONE)");
        Bench.compile(x, "1=?");
        BENCH.due("fault of a wrong expression", Bench.fault(x), "7@2");
        Bench.compile(x, " ".repeat(401));
        BENCH.due("fault of one that can't be", Bench.fault(x), "8@-1");
        Bench.assemble(x, "ja q");
        BENCH.due("fault of a wrong text", Bench.fault(x), "4@1");
        Bench.assemble(x, "ret a");
        BENCH.due("fault of a right text", Bench.fault(x), "0@-1");
        Bench.assemble(x, "\nfoo");
        BENCH.due("fault of another wrong text", Bench.fault(x), "2@2");
        Bench.compile(x, "1=1");
        BENCH.due("fault of a right expression", Bench.fault(x), "0@-1");
        Bench.compile(x, "");
        BENCH.due("fault of an empty tape", Bench.fault(x), "7@0");
    }

    private static void written(int[] row, String due) {
        BerkeleySieve x = Bench.program(Bench.row(6, 0), row);
        BENCH.due("write(1)", x.write(1), due.length());
        BENCH.due("count(3)", x.count(3), due.length());
        BENCH.due("the text", Bench.written(x, 1), due);
    }

    private static void writtenNumbers() {
        BENCH.says("K in digits behind \"#\"; places too");
        String[] numbers = {"0", "1", "9", "10", "99", "100", "2147483647", "2147483648", "4294967295"};
        for (String number : numbers) {
            int k = Integer.parseUnsignedInt(number);
            written(Bench.row(0x00, k), "ld #" + number);
            written(Bench.row(0x20, k), "ld [" + number + "]");
            written(Bench.row(0x48, k), "ldh [x+" + number + "]");
            written(Bench.row(0x61, k), "ldx M[" + number + "]");
            written(Bench.row(0xb1, k), "ldx 4*([" + number + "]&0xf)");
            written(Bench.row(0xa4, k), "xor #" + number);
            written(Bench.row(0x15, 0, 0, k), "jeq #" + number + ",L2,L2");
            written(Bench.row(0x06, k), "ret #" + number);
        }
    }

    private static void writtenJumps() {
        BENCH.says("jumps with \"L\" and the number of the instruction to which they lead");
        written(Bench.row(5, 0), "ja L2");
        written(Bench.row(5, 7), "ja L9");
        written(Bench.row(5, 8), "ja L10");
        written(Bench.row(0x3d, 0, 255, 9), "jge x,L2,L257");
        written(Bench.row(0x45, 255, 0, 9), "jset #9,L257,L2");
        BerkeleySieve x = new BerkeleySieve();
        for (int n = 0; n < 199; n++) {
            x.put(6, 0, 0, 0);
        }
        x.put(0x25, 0, 255, 1);
        BENCH.due("the 200th", Bench.written(x, 199), "jgt #1,L200,L455");
        BENCH.due("write(200)", x.write(200), -1);
        x = Bench.program(Bench.row(5, 0));
        BENCH.due("instruction 0", Bench.written(x, 0), "ja L1");
    }

    private static void writtenLabels() {
        BENCH.says("(these aren't LABELS that can be assembled)");
        wrong("ja L5", "1@1");
        wrong("jeq #2048,L3,L7", "1@1");
        wrong("L5: ret a", "1@1");
    }

    private static void writtenCodes() {
        BENCH.says("another CODE: \"?\"");
        for (int code : new int[] {0x0d, 0x17, 0x18, 0x8c, 0xb4, 0xff, 0x100, 0x106, 0x8006, 65535}) {
            written(Bench.row(code, 1, 2, 3), "?");
        }
        written(Bench.row(0xac, 1, 2, 3), "xor x");
        written(Bench.row(0x84, 1, 2, 3), "neg");
        written(Bench.row(0x87, 1, 2, 3), "txa");
    }

    private static void writeNoneSuch() {
        BENCH.says("NONE (and OUT stays) if there is none such");
        BerkeleySieve x = new BerkeleySieve();
        BENCH.due("write(0) of none", x.write(0), -1);
        BENCH.due("count(3)", x.count(3), 0);
        x.put(0x84, 0, 0, 0);
        x.put(6, 0, 0, 12);
        BENCH.due("write(1)", x.write(1), 7);
        for (int i : new int[] {-1, 2, 3, 200, Integer.MIN_VALUE, Integer.MAX_VALUE}) {
            BENCH.due("write(" + i + ")", x.write(i), -1);
            BENCH.due("count(3) stays", x.count(3), 7);
            BENCH.due("out(0) stays", x.out(0), 'r');
            BENCH.due("out(6) stays", x.out(6), '2');
        }
        x.clear();
        BENCH.due("write(1) behind clear()", x.write(1), -1);
        BENCH.due("out(4) stays", x.out(4), '#');
        x.put(0xff, 0, 0, 0);
        BENCH.due("write(0) of one with a fault", x.write(0), 1);
        BENCH.due("out(0) then", x.out(0), '?');
        BENCH.due("out(1) then", x.out(1), -1);
    }

    private static void outWithout() {
        BENCH.says("Sign i of OUT; NONE without");
        BerkeleySieve x = Bench.program(Bench.row(0x07, 0));
        for (int i : new int[] {-1, 0, 1, Integer.MIN_VALUE, Integer.MAX_VALUE}) {
            BENCH.due("out(" + i + ") of an empty one", x.out(i), -1);
        }
        x.write(0);
        BENCH.due("out(-1)", x.out(-1), -1);
        BENCH.due("out(0)", x.out(0), 't');
        BENCH.due("out(2)", x.out(2), 'x');
        for (int i : new int[] {3, 4, 63, 64, 65, 4000, Integer.MIN_VALUE, Integer.MAX_VALUE}) {
            BENCH.due("out(" + i + ")", x.out(i), -1);
        }
    }
}
