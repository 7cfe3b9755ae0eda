/** Promises 6 and 8: assemble, and what fault tells of it. */
public final class AssembleTest {
    private static final Bench BENCH = new Bench("AssembleTest");

    public static void main(String[] args) {
        instructions();
        spaces();
        numbers();
        labels();
        cantStand();
        noNames();
        labelErrors();
        tooMany();
        order();
        kept();
        BENCH.finish();
    }

    private static void right(String text, String due) {
        BerkeleySieve x = new BerkeleySieve();
        int count = Bench.assemble(x, text);
        BENCH.due("fault of " + text, Bench.fault(x), "0@-1");
        BENCH.due("program of " + text, Bench.numbers(x), due);
        BENCH.due("assemble() of " + text, count, due.isEmpty() ? 0 : due.split(";").length);
        BENCH.due("tape behind " + text, x.count(2), 0);
    }

    private static void wrong(String text, String due) {
        BerkeleySieve x = new BerkeleySieve();
        x.put(6, 1, 2, 3);
        BENCH.due("assemble() of " + text, Bench.assemble(x, text), -1);
        BENCH.due("fault of " + text, Bench.fault(x), due);
        BENCH.due("program that stays at " + text, Bench.numbers(x), "6 1 2 3");
        BENCH.due("tape behind " + text, x.count(2), 0);
    }

    private static void instructions() {
        String[] rows = {
            "ld #1=0", "ld [1]=20", "ldh [1]=28", "ldb [1]=30", "ld [x+1]=40", "ldh [x+1]=48",
            "ldb [x+1]=50", "ld M[1]=60", "ldx #1=1", "ldx M[1]=61", "ldx 4*([1]&0xf)=b1",
            "st M[1]=2", "stx M[1]=3", "ret #1=6"};
        for (String row : rows) {
            String[] parts = row.split("=");
            right(parts[0], parts[1] + " 0 0 1");
        }
        String[] bare = {"ld len=80", "ldx len=81", "neg=84", "ret a=16", "tax=7", "txa=87"};
        for (String row : bare) {
            String[] parts = row.split("=");
            right(parts[0], parts[1] + " 0 0 0");
            wrong(parts[0] + " #1", "1@1");
        }
        String[] names = {"add", "sub", "mul", "div", "or", "and", "lsh", "rsh", "", "mod", "xor"};
        for (int n = 0; n < names.length; n++) {
            if (!names[n].isEmpty()) {
                right(names[n] + " #99", Integer.toHexString(4 + 16 * n) + " 0 0 99");
                right(names[n] + " x", Integer.toHexString(12 + 16 * n) + " 0 0 0");
                wrong(names[n] + " a", "1@1");
                wrong(names[n] + " [1]", "1@1");
            }
        }
        String[] jumps = {"jeq", "jgt", "jge", "jset"};
        for (int n = 0; n < jumps.length; n++) {
            String code = Integer.toHexString(0x15 + 16 * n);
            String withX = Integer.toHexString(0x1d + 16 * n);
            right(jumps[n] + " #7,b,c\nb:neg\nc:", code + " 0 1 7; 84 0 0 0");
            right(jumps[n] + " x,c\nb:neg\nc:", withX + " 1 0 0; 84 0 0 0");
        }
        right("ja e\nneg\nneg\ne:ret a", "5 0 0 2; 84 0 0 0; 84 0 0 0; 16 0 0 0");
    }

    private static void spaces() {
        right("", "");
        right("\n\n  \n;\n ; ld ?\n", "");
        right("   ld    #    5   ", "0 0 0 5");
        right("ld#5;ld #6\nld[x+0x10]", "0 0 0 5; 40 0 0 16");
        right("  l  :  ld  [  x  +  3  ]  ; ok \u00ff", "40 0 0 3");
        right("ldx 4 * ( [ 14 ] & 0xf )", "b1 0 0 14");
        right("ld M [ 3 ]\nst M[4]", "60 0 0 3; 2 0 0 4");
        right("jeq # 1 , e , e\ne : ret a", "15 0 0 1; 16 0 0 0");
        wrong("ld\t#5", "1@1");
        wrong("ret a\r\n", "1@1");
        wrong("ret a\n\0", "1@2");
        wrong("l d #5", "2@1");
        wrong("ld l en", "1@1");
        wrong("ld #1 2", "1@1");
    }

    private static void numbers() {
        right("ld #4294967295", "0 0 0 4294967295");
        wrong("ld #4294967296", "1@1");
        wrong("ld #99999999999999999999999999", "1@1");
        right("ld #00000000000000000000000000017", "0 0 0 17");
        right("ld #0xffffffff", "0 0 0 4294967295");
        right("ld #0x0000000a", "0 0 0 10");
        wrong("ld #0x00000000a", "1@1");
        wrong("ld #0x", "1@1");
        wrong("ld #0x g", "1@1");
        wrong("ld #0xA", "1@1");
        wrong("ld #0X1", "1@1");
        wrong("ld #12a", "1@1");
        wrong("ld #", "1@1");
        wrong("ld #x", "1@1");
        wrong("ld #-1", "1@1");
        right("ld M[99999]", "60 0 0 99999");
        right("lsh #32\ndiv #0", "64 0 0 32; 34 0 0 0");
        for (String bad : new String[] {"0x4*([1]&0xf)", "04*([1]&0xf)", "4*([1]&15)", "4*([1]&0x0f)",
                "4*([1]&0xff)", "5*([1]&0xf)", "4*([x+1]&0xf)", "4*([1]&0xf", "4*[1]&0xf", "4([1]&0xf)", "4"}) {
            wrong("ldx " + bad, "1@1");
        }
        right("ldx 4*([0x0f]&0xf)", "b1 0 0 15");
        wrong("ld 4*([1]&0xf)", "1@1");
    }

    private static void labels() {
        right("ja abcdefgh\nabcdefgh: ret a", "5 0 0 0; 16 0 0 0");
        right("ja l2345678\na:\nl2345678:\nb:ret a", "5 0 0 0; 16 0 0 0");
        right("ld: ld #1\nx: ret a\na:", "0 0 0 1; 16 0 0 0");
        right("jeq x,x,len\nx:\nlen:ret a", "1d 0 0 0; 16 0 0 0");
        right("ja ret\nret:ret #1", "5 0 0 0; 6 0 0 1");
        right("ja e\ne:", "5 0 0 0");
        right("jgt #1,e,f\nneg\nf:\ne:\n", "25 1 1 1; 84 0 0 0");
        right("ja a\na1:neg\na:ret a", "5 0 0 1; 84 0 0 0; 16 0 0 0");
    }

    private static void cantStand() {
        for (String bad : new String[] {":", "#", "5", "M", "x:5", "a:#", "ret", "ret x", "ret [1]", "ret #1,",
                "ret a a", "ld", "ld x", "ld a", "ld 5", "ld [1", "ld 1]", "ld []", "ld [a+1]", "ld [1+x]", "ld [x]",
                "ld [x+]", "ld [x1+1]", "ld M", "ld M[", "ld M[x]", "ld M3", "ld m[3]", "ld M[3", "ldh #1", "ldh len",
                "ldb M[1]", "ldb #1", "ldx [1]", "ldx [x+1]", "ldx x", "st #1", "st [1]", "stx 1", "st M", "neg x",
                "add", "add len", "add #", "ja", "ja #1", "ja 5", "ja a,b", "ja L5", "jeq", "jeq #1", "jeq x",
                "jeq #1 a", "jeq #1,", "jeq #1,a,", "jeq #1,a,b,c", "jeq #1,5", "jeq a,b", "jeq x a", "tax x", "txa a",
                "ld len5", "ld lena", "ret aa", "add xx", "a: :", "a::", "ret: :", "a: ret: ret a", "Ret a",
                "ja abcdefghi", "jeq #1,abcdefghi", "jeq #1,a,abcdefghi", "ld $", "$"}) {
            wrong(bad, "1@1");
            wrong("ret a\n  " + bad + " ; so", "1@2");
        }
        wrong("abcdefghi: ret a", "1@1");
        wrong("ret a\nabcdefghi  : foo", "1@2");
    }

    private static void noNames() {
        for (String bad : new String[] {"foo", "l", "ldd", "ld5", "lde #1", "rets", "re", "jsets x", "jse", "abcdefghi",
                "abcdefghi ret a", "foo $", "foo ; :", "a: b: ret a", "a: b", "len", "x", "a", "ldx4*([1]&0xf)", "ja5",
                "m", "o", "ad", "n"}) {
            wrong(bad, "2@1");
            wrong("\n\n" + bad, "2@3");
        }
        wrong("foo\n: ret a", "2@1");
        wrong("foo\n:", "2@1");
    }

    private static void labelErrors() {
        wrong("a:\na:", "3@2");
        wrong("a:\n\na: foo", "3@3");
        wrong("ld: ret a\nld : $", "3@2");
        wrong("ja q", "4@1");
        wrong("jeq #1,q", "4@1");
        wrong("jeq #1,e,q\ne:", "4@1");
        wrong("neg\na: ja a", "5@2");
        wrong("a: neg\nja a", "5@2");
        wrong("a: jeq #1,a\nret a", "5@1");
        wrong("a: neg\njeq #1,e,a\ne:ret a", "5@2");
        wrong("a: jeq #1,e,a\ne:ret a", "5@1");
        wrong("a: neg\njeq #1,a,q\ne:ret a", "4@2");
        wrong("a: neg\njeq #1,q,a\ne:ret a", "4@2");
        wrong("a: ja a\nja q", "5@1");
        wrong("ja q\na: ja a", "4@1");
        right("ja a\na: ja b\nb: ret a", "5 0 0 0; 5 0 0 0; 16 0 0 0");
    }

    private static void tooMany() {
        String many = "neg\n".repeat(200);
        BerkeleySieve x = new BerkeleySieve();
        BENCH.due("assemble() of 200", Bench.assemble(x, many + "e: ; end"), 200);
        wrong(many + "neg", "6@201");
        wrong(many + "\ne: neg", "6@202");
        wrong(many + "foo", "2@201");
        wrong(many + "neg x", "1@201");
        wrong(many + "e:\ne: neg", "3@202");
        wrong(many + "neg\nfoo", "6@201");
        wrong("ja q\n" + many, "6@201");
        x = new BerkeleySieve();
        BENCH.due("a jump over 198", Bench.assemble(x, "jeq #0,e\n" + "neg\n".repeat(198) + "e: ret a"), 200);
        BENCH.due("insn(0, 1)", x.insn(0, 1), 198);
        x = new BerkeleySieve();
        BENCH.due("a ja over 198 to the end", Bench.assemble(x, "ja e\n" + "neg\n".repeat(199) + "e:"), 200);
        BENCH.due("insn(0, 3)", x.insn(0, 3), 199);
        StringBuilder labels = new StringBuilder();
        for (int n = 0; n < 1000; n++) {
            labels.append((char) ('a' + n / 36 % 26)).append(Character.forDigit(n % 36, 36)).append(":\n");
        }
        x = new BerkeleySieve();
        BENCH.due("4000 bytes of labels twice told", Bench.assemble(x, labels.toString()), -1);
        BENCH.due("its fault", Bench.fault(x), "3@937");
    }

    private static void order() {
        wrong("ja q\nfoo", "2@2");
        wrong("ja q\nld", "1@2");
        wrong("ja q\na:\na:", "3@3");
        wrong("ld\nfoo", "1@1");
        wrong("a:\na: ld", "3@2");
        wrong("a:\nb: foo $", "2@2");
        wrong("a:\na: foo", "3@2");
    }

    private static void kept() {
        BerkeleySieve x = new BerkeleySieve();
        Bench.assemble(x, "foo");
        BENCH.due("fault(2)", x.fault(2), -1);
        BENCH.due("fault(-1)", x.fault(-1), -1);
        Bench.packet(x, 1, 2);
        x.put(6, 0, 0, 0);
        x.run();
        BENCH.due("fault stays", Bench.fault(x), "2@1");
        BENCH.due("assemble() of an empty tape", x.assemble(), 0);
        BENCH.due("count(0) then", x.count(0), 0);
        BENCH.due("fault then", Bench.fault(x), "0@-1");
        Bench.compile(x, "1=");
        BENCH.due("fault of compile()", Bench.fault(x), "7@2");
        Bench.assemble(x, "ret a");
        BENCH.due("fault of assemble()", Bench.fault(x), "0@-1");
        BENCH.due("the packet stays", x.count(1), 2);
    }
}
