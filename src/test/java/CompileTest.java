/** Promises 7 and 8: compile, and what fault tells of it. */
public final class CompileTest {
    private static final Bench BENCH = new Bench("CompileTest");
    private static final String END = "; ret #262144; ret #0";

    public static void main(String[] args) {
        units();
        operations();
        tests();
        answers();
        brackets();
        wrongOnes();
        wrongWords();
        wrongNumbers();
        limits();
        kept();
        BENCH.finish();
    }

    private static void code(String text, String due) {
        BerkeleySieve x = new BerkeleySieve();
        int count = Bench.compile(x, text);
        BENCH.due("program of " + text, Bench.listing(x), due + END);
        BENCH.due("compile() of " + text, count, (due + END).split(";").length);
        BENCH.due("fault of " + text, Bench.fault(x), "0@-1");
        BENCH.due("why() of " + text, x.why(), 0);
        BENCH.due("tape behind " + text, x.count(2), 0);
    }

    private static void refused(String text, String fault) {
        BerkeleySieve x = new BerkeleySieve();
        x.put(6, 1, 2, 3);
        BENCH.due("compile() of " + text, Bench.compile(x, text), -1);
        BENCH.due("fault of " + text, Bench.fault(x), fault);
        BENCH.due("program that stays at " + text, Bench.numbers(x), "6 1 2 3");
        BENCH.due("tape behind " + text, x.count(2), 0);
    }

    /** The sign ~ stands before the first byte with which no expression goes on. */
    private static void wrong(String marked) {
        int place = marked.lastIndexOf('~');
        refused(marked.substring(0, place) + marked.substring(place + 1), "7@" + place);
    }

    private static void units() {
        code("1=2", "ld #1; jeq #2,L2,L3");
        code("0x1f=0xffffffff", "ld #31; jeq #4294967295,L2,L3");
        code("len=2", "ld len; jeq #2,L2,L3");
        code("[5]=2", "ldb [5]; jeq #2,L2,L3");
        code("[5:1]=2", "ldb [5]; jeq #2,L2,L3");
        code("[5:2]=2", "ldh [5]; jeq #2,L2,L3");
        code("[5:4]=2", "ld [5]; jeq #2,L2,L3");
        code("[ ( ( 5 ) ) : 4 ] = ( 2 )", "ld [5]; jeq #2,L2,L3");
        code("[len]=2", "ld len; tax; ldb [x+0]; jeq #2,L4,L5");
        code("[len:2]=2", "ld len; tax; ldh [x+0]; jeq #2,L4,L5");
        code("[[7]:4]=2", "ldb [7]; tax; ld [x+0]; jeq #2,L4,L5");
        code("[1+2]=2", "ld #1; add #2; tax; ldb [x+0]; jeq #2,L5,L6");
        code("  ( len )   =   2  ", "ld len; jeq #2,L2,L3");
    }

    private static void operations() {
        String[] rows = {"+ add", "- sub", "* mul", "/ div", "% mod", "& and", "| or", "^ xor", "<< lsh", ">> rsh"};
        for (String row : rows) {
            String[] parts = row.split(" ");
            code("len" + parts[0] + "3=2", "ld len; " + parts[1] + " #3; jeq #2,L3,L4");
            code("len" + parts[0] + "(3)=2", "ld len; " + parts[1] + " #3; jeq #2,L3,L4");
            code("3" + parts[0] + "len=2", "ld len; st M[0]; ld #3; ldx M[0]; " + parts[1] + " x; jeq #2,L6,L7");
        }
        for (String row : new String[] {"/0 div", "%0 mod", "<<32 lsh", ">>4294967295 rsh"}) {
            String[] parts = row.split(" ");
            String number = parts[0].replaceAll("[^0-9]", "");
            code("len" + parts[0] + "=2", "ld #" + number + "; st M[0]; ld len; ldx M[0]; " + parts[1]
                    + " x; jeq #2,L6,L7");
        }
        code("len<<31>>0=2", "ld len; lsh #31; rsh #0; jeq #2,L4,L5");
        code("1+2*3-4=5", "ld #2; mul #3; st M[0]; ld #1; ldx M[0]; add x; sub #4; jeq #5,L8,L9");
        code("8-4-2=2", "ld #8; sub #4; sub #2; jeq #2,L4,L5");
        code("8-(4-2)=2", "ld #4; sub #2; st M[0]; ld #8; ldx M[0]; sub x; jeq #2,L7,L8");
        code("1&2|3*4=2", "ld #1; and #2; or #3; mul #4; jeq #2,L5,L6");
        code("1-[1]-[2]=2", "ldb [2]; st M[0]; ldb [1]; st M[1]; ld #1; ldx M[1]; sub x; ldx M[0]; sub x; jeq #2,L10,L11");
        code("1-[[1]-[2]]=2", "ldb [2]; st M[0]; ldb [1]; ldx M[0]; sub x; tax; ldb [x+0]; st M[0]; ld #1; ldx M[0];"
                + " sub x; jeq #2,L12,L13");
    }

    private static void tests() {
        code("len=1", "ld len; jeq #1,L2,L3");
        code("len!=1", "ld len; jeq #1,L3,L2");
        code("len>1", "ld len; jgt #1,L2,L3");
        code("len<=1", "ld len; jgt #1,L3,L2");
        code("len>=1", "ld len; jge #1,L2,L3");
        code("len<1", "ld len; jge #1,L3,L2");
        code("1=len", "ld len; st M[0]; ld #1; ldx M[0]; jeq x,L5,L6");
        code("1<len", "ld len; st M[0]; ld #1; ldx M[0]; jge x,L6,L5");
        code("1+[1]>=2-[2]", "ldb [2]; st M[0]; ld #2; ldx M[0]; sub x; st M[0]; ldb [1]; st M[1]; ld #1; ldx M[1]; add x;"
                + " ldx M[0]; jge x,L13,L14");
        code("len<(1)", "ld len; jge #1,L3,L2");
    }

    private static void answers() {
        code("1=1 and 2=2", "ld #1; jeq #1,L2,L5; ld #2; jeq #2,L4,L5");
        code("1=1 or 2=2", "ld #1; jeq #1,L4,L2; ld #2; jeq #2,L4,L5");
        code("not 1=1", "ld #1; jeq #1,L3,L2");
        code("not not 1=1", "ld #1; jeq #1,L2,L3");
        code("not 1!=1", "ld #1; jeq #1,L2,L3");
        code("not (1=1 and 2=2)", "ld #1; jeq #1,L2,L4; ld #2; jeq #2,L5,L4");
        code("not (1=1 or 2=2)", "ld #1; jeq #1,L5,L2; ld #2; jeq #2,L5,L4");
        code("1=1 or 2=2 and 3=3", "ld #1; jeq #1,L6,L2; ld #2; jeq #2,L4,L7; ld #3; jeq #3,L6,L7");
        code("1=1 and 2=2 or 3=3", "ld #1; jeq #1,L2,L4; ld #2; jeq #2,L6,L4; ld #3; jeq #3,L6,L7");
        code("1=1 and (2=2 or 3=3)", "ld #1; jeq #1,L2,L7; ld #2; jeq #2,L6,L4; ld #3; jeq #3,L6,L7");
        code("(1=1 or 2=2) and 3=3", "ld #1; jeq #1,L4,L2; ld #2; jeq #2,L4,L7; ld #3; jeq #3,L6,L7");
        code("not 1=1 and 2=2", "ld #1; jeq #1,L5,L2; ld #2; jeq #2,L4,L5");
        code("1=1and(2=2)or[3]=3", "ld #1; jeq #1,L2,L4; ld #2; jeq #2,L6,L4; ldb [3]; jeq #3,L6,L7");
        code("1=0x1 and 2=2or 3=3", "ld #1; jeq #1,L2,L4; ld #2; jeq #2,L6,L4; ld #3; jeq #3,L6,L7");
        code("not(not(1=1)or not 2=2)", "ld #1; jeq #1,L2,L5; ld #2; jeq #2,L4,L5");
    }

    private static void brackets() {
        code("(1)=1", "ld #1; jeq #1,L2,L3");
        code("(1=1)", "ld #1; jeq #1,L2,L3");
        code("((1)=1)", "ld #1; jeq #1,L2,L3");
        code("((1))=1", "ld #1; jeq #1,L2,L3");
        code("((1)+2)*3=1", "ld #1; add #2; mul #3; jeq #1,L4,L5");
        code("((1+2)*3=1)", "ld #1; add #2; mul #3; jeq #1,L4,L5");
        code("(1<<2)=1", "ld #1; lsh #2; jeq #1,L3,L4");
        code("(1<<2<3)", "ld #1; lsh #2; jge #3,L4,L3");
        code("(1>>2>3)", "ld #1; rsh #2; jgt #3,L3,L4");
        code("not (1)=1", "ld #1; jeq #1,L3,L2");
        code("(((not 1=1)))", "ld #1; jeq #1,L3,L2");
        String open = "(".repeat(20);
        String close = ")".repeat(20);
        code(open + "1=1" + close, "ld #1; jeq #1,L2,L3");
        code(open + "1" + close + "=1", "ld #1; jeq #1,L2,L3");
        code("1=" + open + "1" + close, "ld #1; jeq #1,L2,L3");
        code("(".repeat(10) + "[".repeat(10) + "1" + "]".repeat(10) + ")".repeat(10) + "=1",
                "ldb [1]" + "; tax; ldb [x+0]".repeat(9) + "; jeq #1,L20,L21");
        wrong(open + "~(1=1)" + close);
        wrong(open + "~[1]=1" + close);
        wrong("1=" + open + "~(1)" + close);
        wrong("[".repeat(20) + "~[");
    }

    private static void wrongOnes() {
        for (String marked : new String[] {"~", "   ~", "1~", "1 ~2=3", "1=~", "1=1 ~x", "1=1~)", "~=1", "1=~=1", "1=1~=1",
                "1=1~!=1", "1!~", "1!~ =1", "1!~1", "1>>~=1", "1<~", "1<=~", "1< ~=1", "1> ~>1",
                "1<<~<1", "1<<~=1", "1=2<~1", "1=2>~=1", "1=2<~", "1=2 <~ <3", "1=2<<~", "1+~", "1+~+1=1", "~-1=1", "1*~*1=1",
                "(~", "(~)", "(1~", "(1 ~2=3)", "(1=1~", "(1=1)~+1=1", "(1=1)~=1", "(1=1)~<1", "(1=1)~(", "(1)~", "(1)~(",
                "(1) ~and 2=2", "(1 ~and 2=2)", "(1+(2~=3))", "(not 1~)", "not (1)~", "not~", "not ~", "not ~)", "((1)~",
                "((1) ~and 1=1)", "((1=1)~+2=3)", "1=(1~=1)", "1=(2<~3)", "1+(2>~3)=1",
                "[~", "[~]=1", "[1~", "[1~=1]", "[1<~1]=1", "[1>~=1]=1", "[1~!=1]=1", "[1:~", "[1:~3]=1",
                "[1:~0]=1", "[1:1~0]=1", "[1:2~2]", "[1:2~", "[1:2 ~:2]", "[1~)", "(1~]", "[1 ~and 2]=1",
                "[1]~[2]=1", "[1]~", "1=1 and~", "1=1 and ~", "1=1 and ~and 2=2", "1=1 or ~or", "1=1 and 2~", "1=1 or ~=",
                "1 ~and 2=2", "len ~len=1", "len~(1)=1", "1=1 ~not 2=2", "1=1 ~(", "1=~not 1", "1+~not 1=1", "~\n1=1", "1=1~\0",
                "1~\t=1", "~A", "~M", "~#1=1", "1~,2=2", "1=1~;", "~\u00ff"}) {
            wrong(marked);
        }
    }

    private static void wrongWords() {
        for (String marked : new String[] {"l~", "le~", "le~ n=1", "le~x=1", "len~s=1", "len~1=1", "~x=1", "~and 1=1", "~or",
                "n~", "no~", "no~ t 1=1", "no~d", "not~l", "not~x", "not~1=1", "not~len=1", "(n~", "(no~",
                "(no~)", "(not~a)", "(not~5=1)", "(l~)", "1=1 a~", "1=1 an~", "1=1 an~ d", "1=1 a~x", "1=1 and~2=2",
                "1=1 and~x", "1=1and~2=2", "1=1 o~", "1=1 o~x", "1=1 or~2=2", "1=1or~d 2=2", "1=1 or~len=1", "1=len~and 1=1",
                "1=1 ~n", "1=1 ~l", "~Len=1", "l~E", "1=0x1a~nd 2=2", "1=0x1 a~t"}) {
            wrong(marked);
        }
    }

    private static void wrongNumbers() {
        code("4294967295=00000000000000000000004294967295", "ld #4294967295; jeq #4294967295,L2,L3");
        for (String marked : new String[] {"429496729~6=1", "429496729~9999=1", "4294967295~0=1", "500000000~0=1",
                "0000429496729~6=1", "0x~", "0x~ 1=1", "0x~g=1", "0x~A=1", "0~X1=1", "00~x1=1", "1~x1=1", "0x12345678~9=1",
                "0x00000000~1=1", "0xffffffff~f", "1~a=1", "1=1~x", "1=1a~", "1=1 ~1", "[429496729~6]=1", "1=429496729~6"}) {
            wrong(marked);
        }
    }

    private static void limits() {
        BerkeleySieve x = new BerkeleySieve();
        String blanks = " ".repeat(397);
        BENCH.due("compile() of 400 bytes", Bench.compile(x, "1=1" + blanks), 4);
        refused("1=1 " + blanks, "8@-1");
        refused("?" + " " + blanks + "  ", "8@-1");
        refused("x".repeat(4000), "8@-1");
        // 16 right operands wait in words 0 to 15; the 17th has none.
        String sixteen = "-[1]".repeat(16);
        BENCH.due("compile() with 16 words", Bench.compile(x, "1" + sixteen + "=1"), 2 * 16 + 1 + 2 * 16 + 3);
        BENCH.due("why() with 16 words", x.why(), 0);
        refused("1" + sixteen + "-[1]=1", "8@-1");
        refused("1" + sixteen + "=[1]", "8@-1");
        BENCH.due("compile() with 15 and one", Bench.compile(x, "1" + "-[1]".repeat(15) + "=[1]"), 2 + 4 * 15 + 1 + 4);
        BENCH.due("compile() of a right nest", Bench.compile(x, "1-(".repeat(19) + "len" + ")".repeat(19) + "=1"), 80);
        // An ld, 196 operations, the jump and two rets.
        String many = "+1".repeat(196);
        BENCH.due("compile() of 200 instructions", Bench.compile(x, "1" + many + "=1"), 200);
        BENCH.due("ret at 199", x.insn(199, 3), 0);
        refused("1+1" + many + "=1", "8@-1");
        refused("1" + many + "+0=1", "8@-1");
        StringBuilder chain = new StringBuilder("1=1");
        for (int n = 0; n < 49; n++) {
            chain.append(n % 2 == 0 ? "or 1=1" : "and 1=1");
        }
        BENCH.due("compile() of fifty tests", Bench.compile(x, chain.toString()), 102);
        BENCH.due("why() of fifty tests", x.why(), 0);
        BENCH.due("compile() of many nots", Bench.compile(x, "not ".repeat(99) + "1=1"), 4);
        BENCH.due("turned round 99 times", Bench.listing(x), "ld #1; jeq #1,L3,L2" + END);
        String deep = "1+1*[".repeat(20) + "len" + "]".repeat(20) + "=1";
        BENCH.due("compile() of the deepest", Bench.compile(x, deep), -1);
        deep = "1+1*[".repeat(19) + "len" + "]".repeat(19) + "=1";
        BENCH.due("compile() of a deep one", Bench.compile(x, deep), 19 * 10 + 4);
        deep = "2>1 or 1=1 and(".repeat(20) + "1=1" + ")".repeat(20);
        BENCH.due("compile() of deep answers", Bench.compile(x, deep), 84);
        BENCH.due("why() of deep answers", x.why(), 0);
    }

    private static void kept() {
        BerkeleySieve x = new BerkeleySieve();
        Bench.compile(x, "1=");
        BENCH.due("fault(2)", x.fault(2), -1);
        BENCH.due("fault(-1)", x.fault(-1), -1);
        x.put(6, 0, 0, 0);
        BENCH.due("fault stays", Bench.fault(x), "7@2");
        Bench.compile(x, "1=1");
        BENCH.due("fault of a right one", Bench.fault(x), "0@-1");
        BENCH.due("compile() of an empty tape", x.compile(), -1);
        BENCH.due("fault of an empty tape", Bench.fault(x), "7@0");
        BENCH.due("count(0) stays", x.count(0), 4);
    }
}
