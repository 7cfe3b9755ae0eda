/**
 * The edges that term 5 and promise 7 name, a test for each sentence: the last case that is allowed and the
 * first one that isn't, on both sides where there are two.
 */
public final class ExpressionEdgesTest {
    private static final Bench BENCH = new Bench("ExpressionEdgesTest");
    private static final String END = "; ret #262144; ret #0";

    public static void main(String[] args) {
        emptyTape();
        textsOf400();
        relations();
        repeatedParts();
        nots();
        allAlike();
        howMany124();
        blanksBetween();
        bracketOfOr();
        bracketOfSum();
        brackets20();
        bracketsBeside();
        decimalNumbers();
        hexadecimalNumbers();
        wordsAreLong();
        placeOfByte();
        placeOfLength();
        bytesOfNumber();
        numberThatMayStand();
        numberInBrackets();
        deep();
        sixteenWords();
        seventeenthAnywhere();
        sixteenWordsOfATest();
        secondSum();
        instructions200();
        instructions200OfTests();
        the201stAnywhere();
        longestJumps();
        wrongAheadOfCantBe();
        programStays();
        BENCH.finish();
    }

    private static void code(String text, String due) {
        String all = due + END;
        BerkeleySieve x = Bench.compiled(text);
        BENCH.due("fault of " + text, Bench.fault(x), "0@-1");
        BENCH.due("count(0) of " + text, x.count(0), all.split(";").length);
        BENCH.due("program of " + text, Bench.listing(x), all);
        BENCH.due("tape behind " + text, x.count(2), 0);
    }

    private static void count(String text, int due) {
        BerkeleySieve x = new BerkeleySieve();
        BENCH.due("compile() of " + text, Bench.compile(x, text), due);
        BENCH.due("fault of " + text, Bench.fault(x), "0@-1");
        BENCH.due("count(0) of " + text, x.count(0), due);
        BENCH.due("why() of " + text, x.why(), 0);
        BENCH.due("the last but one of " + text, x.insn(due - 2, 3), 262144);
        BENCH.due("the last of " + text, x.insn(due - 1, 0), 6);
    }

    private static void refused(String text, String fault) {
        BerkeleySieve x = Bench.program(Bench.row(6, 1, 2, 3));
        BENCH.due("compile() of " + text, Bench.compile(x, text), -1);
        BENCH.due("fault of " + text, Bench.fault(x), fault);
        BENCH.due("the program stays at " + text, Bench.numbers(x), "6 1 2 3");
        BENCH.due("tape behind " + text, x.count(2), 0);
    }

    private static void cantBe(String text) {
        refused(text, "8@-1");
    }

    /** The sign ~ stands before the first byte with which no expression goes on. */
    private static void wrong(String marked) {
        int place = marked.lastIndexOf('~');
        refused(marked.substring(0, place) + marked.substring(place + 1), "7@" + place);
    }

    private static void emptyTape() {
        BENCH.says("or its length");
        BerkeleySieve x = Bench.program(Bench.row(6, 5));
        BENCH.due("compile() of an empty tape", x.compile(), -1);
        BENCH.due("fault of it", Bench.fault(x), "7@0");
        BENCH.due("the program stays", Bench.numbers(x), "6 0 0 5");
        BENCH.says("The PROGRAM is that of the EXPRESSION on the TAPE (which is empty then)");
        BENCH.due("compile() of one", Bench.compile(x, "1=1"), 4);
        BENCH.due("count(2) behind it", x.count(2), 0);
        BENCH.due("compile() of the tape that is empty then", x.compile(), -1);
        BENCH.due("count(0) stays", x.count(0), 4);
    }

    private static void textsOf400() {
        BENCH.says("texts of at most 400 BYTES; one of more can't be");
        count("1=1" + " ".repeat(396), 4);
        count("1=1" + " ".repeat(397), 4);
        count(" ".repeat(397) + "1=1", 4);
        cantBe("1=1" + " ".repeat(398));
        cantBe(" ".repeat(398) + "1=1");
        wrong("1=1" + " ".repeat(396) + "~?");
        wrong(" ".repeat(400) + "~");
        cantBe("?" + " ".repeat(400));
        cantBe(" ".repeat(401));
        cantBe("1=1" + " ".repeat(3997));
        count("0".repeat(397) + "=1", 4);
        cantBe("0".repeat(399) + "=1");
    }

    private static void relations() {
        BENCH.says("TEST: SUM, one of = != > < >= <=, SUM");
        code("len=1", "ld len; jeq #1,L2,L3");
        code("len!=1", "ld len; jeq #1,L3,L2");
        code("len>1", "ld len; jgt #1,L2,L3");
        code("len<=1", "ld len; jgt #1,L3,L2");
        code("len>=1", "ld len; jge #1,L2,L3");
        code("len<1", "ld len; jge #1,L3,L2");
        for (String marked : new String[] {"len~", "len=~", "len!~", "len!~1", "len!~ =1", "len>~", "len> ~=1",
                "len< ~=1", "len=~=1", "len=~>1", "len>=~=1", "len<~>1", "len!=~=1", "~=1", "~<1", "len=1~=1", "len=1~!=1"}) {
            wrong(marked);
        }
    }

    private static void repeatedParts() {
        BENCH.says("OR: AND { \"or\" AND }. AND: NOT { \"and\" NOT }");
        code("1=1", "ld #1; jeq #1,L2,L3");
        code("1=1 or 2=2", "ld #1; jeq #1,L4,L2; ld #2; jeq #2,L4,L5");
        code("1=1 and 2=2", "ld #1; jeq #1,L2,L5; ld #2; jeq #2,L4,L5");
        code("1=1 or 2=2 or 3=3", "ld #1; jeq #1,L6,L2; ld #2; jeq #2,L6,L4; ld #3; jeq #3,L6,L7");
        code("1=1 and 2=2 and 3=3", "ld #1; jeq #1,L2,L7; ld #2; jeq #2,L4,L7; ld #3; jeq #3,L6,L7");
        wrong("~or 1=1");
        wrong("~and 1=1");
        wrong("1=1 or~");
        wrong("1=1 and ~");
        wrong("1=1 or ~or 1=1");
        wrong("1=1 and ~or 1=1");
        wrong("1=1 ~1=1");
    }

    private static void nots() {
        BENCH.says("NOT: \"not\" NOT, \"(\" OR \")\", or TEST");
        code("not 1=1", "ld #1; jeq #1,L3,L2");
        code("not not 1=1", "ld #1; jeq #1,L2,L3");
        code("not(1=1)", "ld #1; jeq #1,L3,L2");
        code("not (not(1=1))", "ld #1; jeq #1,L2,L3");
        BerkeleySieve x = Bench.compiled("not ".repeat(99) + "1=1");
        BENCH.due("99 times turned round", Bench.written(x, 1), "jeq #1,L3,L2");
        x = Bench.compiled("not ".repeat(98) + "1=1");
        BENCH.due("98 times turned round", Bench.written(x, 1), "jeq #1,L2,L3");
        wrong("not ~");
        wrong("not~");
        wrong("not 1~");
        wrong("not (1)~");
        wrong("not ~and 1=1");
    }

    private static void allAlike() {
        BENCH.says("(all alike, from the left)");
        code("1*2&3<<4|5=6", "ld #1; mul #2; and #3; lsh #4; or #5; jeq #6,L6,L7");
        code("1|2*3%4=6", "ld #1; or #2; mul #3; mod #4; jeq #6,L5,L6");
        code("9-8-7=6", "ld #9; sub #8; sub #7; jeq #6,L4,L5");
        code("9-8*7=6", "ld #8; mul #7; st M[0]; ld #9; ldx M[0]; sub x; jeq #6,L7,L8");
        code("9*8-7=6", "ld #9; mul #8; sub #7; jeq #6,L4,L5");
    }

    private static void howMany124() {
        BENCH.says("\"[\" SUM \":\" (1, 2, 4) \"]\"");
        code("[9]=1", "ldb [9]; jeq #1,L2,L3");
        code("[9:1]=1", "ldb [9]; jeq #1,L2,L3");
        code("[9:2]=1", "ldh [9]; jeq #1,L2,L3");
        code("[9:4]=1", "ld [9]; jeq #1,L2,L3");
        for (String marked : new String[] {"[9:~0]=1", "[9:~3]=1", "[9:~5]=1", "[9:~8]=1", "[9:~]=1", "[9:1~6]=1", "[9:2~0]=1",
                "[9:4~4]=1", "[9:~len]=1", "[9:~(1)]=1", "[~:1]=1", "[9~", "[9:~", "[9:1~", "[~]=1"}) {
            wrong(marked);
        }
    }

    private static void blanksBetween() {
        BENCH.says("Blanks may stand between");
        code("  [  9  :  2  ]  +  (  1  )  >=  0x2  ", "ldh [9]; add #1; jge #2,L3,L4");
        code("[9:2]+(1)>=0x2", "ldh [9]; add #1; jge #2,L3,L4");
        code("1=1   or   not   2=2", "ld #1; jeq #1,L4,L2; ld #2; jeq #2,L5,L4");
        for (char sign : new char[] {0, 9, 10, 13, 31, 127, 160, 255}) {
            wrong("~" + sign + "1=1");
            wrong("1~" + sign + "=1");
            wrong("1=1~" + sign);
        }
        wrong("1 ~1=1");
        wrong("le~ n=1");
        wrong("1< ~<1=1");
        wrong("0x~ 1=1");
    }

    private static void bracketOfOr() {
        BENCH.says("one of = ! > < that is not part of \"<<\" or \">>\", or a word \"and\", \"or\", \"not\"");
        code("(len=1)", "ld len; jeq #1,L2,L3");
        code("(len!=1)", "ld len; jeq #1,L3,L2");
        code("(len>1)", "ld len; jgt #1,L2,L3");
        code("(len<1)", "ld len; jge #1,L3,L2");
        code("(len<<2<1)", "ld len; lsh #2; jge #1,L4,L3");
        code("(len>>2>1)", "ld len; rsh #2; jgt #1,L3,L4");
        code("(len>>2>=1)", "ld len; rsh #2; jge #1,L3,L4");
        code("((len)=1)", "ld len; jeq #1,L2,L3");
        code("((len=1))", "ld len; jeq #1,L2,L3");
        code("(not len=1)", "ld len; jeq #1,L3,L2");
        code("((len)=1 and (len+1)*2=3)", "ld len; jeq #1,L2,L7; ld len; add #1; mul #2; jeq #3,L6,L7");
        wrong("(len=1)~=1");
        wrong("(len=1)~+1=1");
        wrong("(not len=1)~<2");
        wrong("1=(len~=1)");
        wrong("[(len~=1)]=1");
    }

    private static void bracketOfSum() {
        BENCH.says("else that of SUM");
        code("(len)=1", "ld len; jeq #1,L2,L3");
        code("((len))=1", "ld len; jeq #1,L2,L3");
        code("(len<<1)=1", "ld len; lsh #1; jeq #1,L3,L4");
        code("(len>>1)=1", "ld len; rsh #1; jeq #1,L3,L4");
        code("([1])+2=1", "ldb [1]; add #2; jeq #1,L3,L4");
        code("(len+1)*(len)=1", "ld len; st M[0]; ld len; add #1; ldx M[0]; mul x; jeq #1,L7,L8");
        wrong("(len)~");
        wrong("(len) ~and 1=1");
        wrong("(len)~)");
        wrong("(len ~and 1=1)");
        wrong("((len) ~or 1=1)");
    }

    private static void brackets20() {
        BENCH.says("(At most 20 brackets within one another.)");
        for (int count : new int[] {1, 19, 20}) {
            String open = "(".repeat(count);
            String close = ")".repeat(count);
            code(open + "1=1" + close, "ld #1; jeq #1,L2,L3");
            code(open + "1" + close + "=1", "ld #1; jeq #1,L2,L3");
            code("1=" + open + "1" + close, "ld #1; jeq #1,L2,L3");
            count("[".repeat(count) + "1" + "]".repeat(count) + "=1", 2 * count + 2);
            count("1=" + "[".repeat(count) + "1" + "]".repeat(count), 2 * count + 5);
        }
        count("(".repeat(10) + "[".repeat(10) + "1" + "]".repeat(10) + "=1" + ")".repeat(10), 22);
        count("(not ".repeat(20) + "1=1" + ")".repeat(20), 4);
        String open = "(".repeat(20);
        wrong(open + "~(1=1" + ")".repeat(21));
        wrong(open + "~(1" + ")".repeat(21) + "=1");
        wrong(open + "~[1]=1" + ")".repeat(20));
        wrong(open + "not ~(1=1)" + ")".repeat(20));
        wrong("1=" + open + "~(1" + ")".repeat(21));
        wrong("1=" + open + "~[1]" + ")".repeat(20));
        wrong("[".repeat(20) + "~[1" + "]".repeat(21) + "=1");
        wrong("1=" + "[".repeat(20) + "~(1)" + "]".repeat(20));
        wrong("(".repeat(10) + "[".repeat(10) + "~(");
        wrong("(".repeat(10) + "[".repeat(10) + "1+~[");
    }

    private static void bracketsBeside() {
        BENCH.says("within one another");
        String beside = "(1)".concat("+(1)".repeat(30));
        count(beside + "=1", 34);
        count("[1]=1" + " or [1]=1".repeat(30), 64);
        count("(1=1)" + " and (1=1)".repeat(30), 64);
        count("(".repeat(19) + "(1)+(1)+[1]" + ")".repeat(19) + "=(1)", 9);
        wrong("(".repeat(20) + "1" + ")".repeat(20) + "=" + "(".repeat(20) + "~(");
    }

    private static void decimalNumbers() {
        BENCH.says("(a digit too many, a 21st bracket ..)");
        code("4294967295=4294967295", "ld #4294967295; jeq #4294967295,L2,L3");
        code("0=00000000004294967295", "ld #0; jeq #4294967295,L2,L3");
        for (String marked : new String[] {"429496729~6=1", "4294967295~0=1", "429496730~0=1", "500000000~0=1", "999999999~9=1",
                "00429496729~6=1", "1=429496729~6", "1=4294967295~1", "[429496729~6]=1", "(429496729~6)=1",
                "1844674407~3709551617=1"}) {
            wrong(marked);
        }
    }

    private static void hexadecimalNumbers() {
        BENCH.says("NUMBERS are as in 4");
        code("0x0=0xffffffff", "ld #0; jeq #4294967295,L2,L3");
        code("0xa=0x0000000f", "ld #10; jeq #15,L2,L3");
        for (String marked : new String[] {"0x~", "0x~=1", "0x~g=1", "0x~A=1", "0~X1=1", "0x12345678~9=1", "0x00000000~0=1", "0x1~g=1",
                "1=0x~", "1=0x00000000~1", "00~x1=1", "1~x1=1"}) {
            wrong(marked);
        }
    }

    private static void wordsAreLong() {
        BENCH.says("words runs of small letters and digits, both as long as can be");
        for (String marked : new String[] {"len~1=1", "len~s=1", "not~1=1", "not~len=1", "1=1 and~1=1", "1=1 or~2=2", "1=1 or~d 1=1",
                "1=1 an~ 1=1", "1=1 a~", "l~", "le~", "n~", "no~", "1=1 o~", "1=len~and 1=1", "~x=1", "~a=1", "1=1 ~x", "1=1 ~n"}) {
            wrong(marked);
        }
        code("1=len or(1=1)", "ld len; st M[0]; ld #1; ldx M[0]; jeq x,L7,L5; ld #1; jeq #1,L7,L8");
        code("not[1]=1", "ldb [1]; jeq #1,L3,L2");
    }

    private static void placeOfByte() {
        BENCH.says("the place of the first BYTE with which no EXPRESSION goes on");
        for (String marked : new String[] {"~)", "~]=1", "~+1=1", "~?", "1~?", "1=~?", "1=1~?", "1=1 ~?", "(~)", "(1~]", "[1~)", "1+~*1=1",
                "1<<~<1=1", "1=1~)", "(1=1)~)", "1=1~]", "1~,1", "1=1~;", "~#1=1", "~M[1]=1", "~-1=1", "1=~-1",
                "1=2<~3", "1=2>~=3", "[1<~2]=3", "1=(2>~3)"}) {
            wrong(marked);
        }
    }

    private static void placeOfLength() {
        BENCH.says("or its length");
        for (String marked : new String[] {"~", " ~", "1~", "12~", "len~", "1=~", "1= ~", "1=1 and~", "1=1 or ~", "(~", "(1~", "(1=1~", "[~",
                "[1~", "[1:~", "[1:2~", "1+~", "1<<~", "1<~", "1!~", "not~", "not ~", "0x~", "1=0x~", "(((1)~", "1=(1~", "1=[1:4~"}) {
            wrong(marked);
        }
    }

    private static void bytesOfNumber() {
        BENCH.says("if S is a NUMBER alone: ldb, ldh, ld [k] (1 without n); else CODE of S, tax, ldb, ldh, ld [x+0]");
        code("[4294967295]=1", "ldb [4294967295]; jeq #1,L2,L3");
        code("[(0)]=1", "ldb [0]; jeq #1,L2,L3");
        code("[len]=1", "ld len; tax; ldb [x+0]; jeq #1,L4,L5");
        code("[len:1]=1", "ld len; tax; ldb [x+0]; jeq #1,L4,L5");
        code("[len:2]=1", "ld len; tax; ldh [x+0]; jeq #1,L4,L5");
        code("[len:4]=1", "ld len; tax; ld [x+0]; jeq #1,L4,L5");
        code("[1+1]=1", "ld #1; add #1; tax; ldb [x+0]; jeq #1,L5,L6");
        code("[[1:2]:4]=1", "ldh [1]; tax; ld [x+0]; jeq #1,L4,L5");
    }

    private static void numberThatMayStand() {
        BENCH.says("if r is a NUMBER alone that may stand there");
        String[][] rows = {{"/", "div", "1", "0"}, {"%", "mod", "1", "0"}, {"<<", "lsh", "31", "32"}, {">>", "rsh", "31", "32"},
            {"/", "div", "4294967295", "00"}, {"<<", "lsh", "0", "4294967295"}, {">>", "rsh", "0", "33"}, {"%", "mod", "2", "0x0"}};
        for (String[] row : rows) {
            code("len" + row[0] + row[2] + "=1", "ld len; " + row[1] + " #" + row[2] + "; jeq #1,L3,L4");
            String number = row[3].startsWith("0") ? "0" : row[3];
            code("len" + row[0] + row[3] + "=1",
                    "ld #" + number + "; st M[0]; ld len; ldx M[0]; " + row[1] + " x; jeq #1,L6,L7");
            code("len" + row[0] + "(" + row[3] + ")=1",
                    "ld #" + number + "; st M[0]; ld len; ldx M[0]; " + row[1] + " x; jeq #1,L6,L7");
        }
        for (String row : new String[] {"+ add", "- sub", "* mul", "& and", "| or", "^ xor"}) {
            String[] parts = row.split(" ");
            for (String number : new String[] {"0", "32", "4294967295"}) {
                code("len" + parts[0] + number + "=1", "ld len; " + parts[1] + " #" + number + "; jeq #1,L3,L4");
            }
        }
    }

    private static void numberInBrackets() {
        BENCH.says("A NUMBER in ( ) is a NUMBER alone, too");
        code("len=((7))", "ld len; jeq #7,L2,L3");
        code("len+((7))=1", "ld len; add #7; jeq #1,L3,L4");
        code("[((7)):2]=1", "ldh [7]; jeq #1,L2,L3");
        code("(7)=1", "ld #7; jeq #1,L2,L3");
        code("len=(7+0)", "ld #7; add #0; st M[0]; ld len; ldx M[0]; jeq x,L6,L7");
        code("len=len", "ld len; st M[0]; ld len; ldx M[0]; jeq x,L5,L6");
    }

    private static void deep() {
        BENCH.says("CODE of r at d, st M[d], CODE of l at d + 1, ldx M[d], op x");
        code("1-len=1", "ld len; st M[0]; ld #1; ldx M[0]; sub x; jeq #1,L6,L7");
        code("1-len-[2]=1", "ldb [2]; st M[0]; ld len; st M[1]; ld #1; ldx M[1]; sub x; ldx M[0]; sub x; jeq #1,L10,L11");
        code("1-(len-[2])=1", "ldb [2]; st M[0]; ld len; ldx M[0]; sub x; st M[0]; ld #1; ldx M[0]; sub x; jeq #1,L10,L11");
        code("(1-len)-3=1", "ld len; st M[0]; ld #1; ldx M[0]; sub x; sub #3; jeq #1,L7,L8");
    }

    private static void sixteenWords() {
        BENCH.says("(Where M[16] would be needed it can't be.");
        for (int words : new int[] {1, 15, 16}) {
            String text = "1" + "-[1]".repeat(words) + "=1";
            count(text, 4 * words + 4);
            BerkeleySieve x = Bench.compiled(text);
            BENCH.due("the last st of " + text, x.insn(2 * words - 1, 0), 2);
            BENCH.due("its word", x.insn(2 * words - 1, 3), words - 1);
            BENCH.due("the first ldx of " + text, x.insn(2 * words + 1, 3), words - 1);
        }
        cantBe("1" + "-[1]".repeat(17) + "=1");
        cantBe("1" + "-[1]".repeat(18) + "=1");
        // A number that may stand there needs none.
        count("1" + "-[1]".repeat(16) + "-1".repeat(20) + "=1", 4 * 16 + 4 + 20);
        count("1" + "-1".repeat(20) + "-[1]".repeat(16) + "=1", 4 * 16 + 4 + 20);
        // One that may not stand there needs one.
        count("1" + "/0".repeat(16) + "=1", 4 * 16 + 4);
        cantBe("1" + "/0".repeat(17) + "=1");
        // Right parts are at the same depth, so that brackets to the right need none.
        count("1-(".repeat(19) + "len" + ")".repeat(19) + "=1", 80);
    }

    private static void seventeenthAnywhere() {
        BENCH.says("(Where M[16] would be needed it can't be.");
        // Whatever stands before it or behind it, which alone could be.
        for (String right : new String[] {"-[1]", "/0"}) {
            String last = "1" + right.repeat(16);
            String first = last + right;
            count("(" + last + "=1)and 1=1", 4 * 16 + 6);
            count("1=1 or " + last + "=1 and 1=1", 4 * 16 + 8);
            count("[" + last + "]+1=1", 4 * 16 + 7);
            cantBe("(" + first + "=1)and 1=1");
            cantBe("(" + first + "=1)or 1=1");
            cantBe("1=1 or " + first + "=1");
            cantBe("1=1 or " + first + "=1 and 1=1");
            cantBe("not(" + first + "=1)and 1=1 or 2=2");
            cantBe("(1=1 and " + first + "=1)or(1=1 and 2=2)");
            cantBe("[" + first + "]+1=1");
            cantBe("[" + first + "]=1 or 1=1");
            cantBe("len=" + first);
            cantBe("(" + first + ")=len or len=1");
        }
    }

    private static void sixteenWordsOfATest() {
        BENCH.says("CODE of the second one at 0, st M[0], CODE of the first one at 1, ldx M[0], the jump with x");
        count("1" + "-[1]".repeat(15) + "=[1]", 4 * 15 + 7);
        cantBe("1" + "-[1]".repeat(16) + "=[1]");
        count("1" + "-[1]".repeat(16) + "=1", 4 * 16 + 4);
        count("1=1" + "-[1]".repeat(16), 4 * 16 + 7);
        cantBe("1=1" + "-[1]".repeat(17));
        count("[1]" + "-[1]".repeat(15) + "=[1" + "-[1]".repeat(16) + "]", 4 * 15 + 4 * 16 + 9);
    }

    private static void secondSum() {
        BENCH.says("if the second SUM is a NUMBER alone: CODE of the first one, and the jump with #k");
        code("1-len=4294967295", "ld len; st M[0]; ld #1; ldx M[0]; sub x; jeq #4294967295,L6,L7");
        code("1-len=len", "ld len; st M[0]; ld len; st M[1]; ld #1; ldx M[1]; sub x; ldx M[0]; jeq x,L9,L10");
        for (String row : new String[] {"= jeq 5 6", "!= jeq 6 5", "> jgt 5 6", "<= jgt 6 5", ">= jge 5 6", "< jge 6 5"}) {
            String[] parts = row.split(" ");
            code("1" + parts[0] + "len", "ld len; st M[0]; ld #1; ldx M[0]; " + parts[1] + " x,L" + parts[2] + ",L" + parts[3]);
        }
    }

    private static void instructions200() {
        BENCH.says("whose PROGRAM would have more than 200 instructions");
        count("1" + "+1".repeat(195) + "=1", 199);
        count("1" + "+1".repeat(196) + "=1", 200);
        cantBe("1" + "+1".repeat(197) + "=1");
        cantBe("len" + "+1".repeat(197) + "=1");
        // With four more for a jump with x.
        count("len=1" + "+1".repeat(193), 200);
        cantBe("len=1" + "+1".repeat(194));
    }

    private static void instructions200OfTests() {
        BENCH.says("whose PROGRAM would have more than 200 instructions");
        // Each test has two instructions, and 198 of them are 99 tests; there is no room for so many in 400 bytes.
        String tests = "len=len or ".repeat(36);
        BerkeleySieve x = new BerkeleySieve();
        BENCH.due("compile() of 36 tests with x", Bench.compile(x, tests + "1=1"), 36 * 5 + 4);
        String sums = "1=1-1-1-1-1-1-1-1-1-1-1-1 or ".repeat(11);
        count(sums + "1=1" + "-1".repeat(7), 11 * 16 + 14);
        count(sums + "1=1" + "-1".repeat(17), 200);
        cantBe(sums + "1=1" + "-1".repeat(18));
    }

    private static void the201stAnywhere() {
        BENCH.says("whose PROGRAM would have more than 200 instructions");
        // Three of these have 66 each, and with the two ret they are 200.
        String test = "1" + "/0".repeat(16) + "=1";
        for (String word : new String[] {" or ", " and "}) {
            count(test + word + test, 2 * 66 + 2);
            count(test + word + test + word + test, 200);
            cantBe("1-" + test + word + test + word + test);
            cantBe(test + word + "1-" + test + word + test);
            cantBe(test + word + test + word + "1-" + test);
            cantBe(test + word + test + word + test + word + "1=1");
            cantBe("1=1" + word + test + word + test + word + test);
            cantBe(test + word + test + word + test + word + test + word + "(1=1 or 2=2)");
        }
    }

    private static void longestJumps() {
        BENCH.says("or a jump above 255");
        // The longest jump there can be goes from the first test over all others.
        BerkeleySieve x = Bench.compiled("1=1 and 1" + "+1".repeat(194) + "=1");
        BENCH.due("compile() of 200", x.count(0), 200);
        BENCH.due("JT", x.insn(1, 1), 0);
        BENCH.due("JF", x.insn(1, 2), 197);
        x = Bench.compiled("1=1 or 1" + "+1".repeat(194) + "=1");
        BENCH.due("JT of or", x.insn(1, 1), 196);
        BENCH.due("JF of or", x.insn(1, 2), 0);
    }

    private static void wrongAheadOfCantBe() {
        BENCH.says("NONE if it is a wrong one (fault() 7), or can't be (8)");
        wrong("1" + "+1".repeat(198) + "~?");
        wrong("1" + "-[1]".repeat(17) + "=~");
        wrong("1" + "+1".repeat(197) + "=1~)");
        cantBe("1" + "+1".repeat(198) + "=1");
        cantBe("1" + "-[1]".repeat(100) + "=?");
    }

    private static void programStays() {
        BENCH.says("NONE if it is a wrong one (fault() 7), or can't be (8): the PROGRAM stays");
        for (String text : new String[] {"", "1=", "1" + "/0".repeat(17) + "=1", "1" + "+1".repeat(197) + "=1", " ".repeat(401)}) {
            BerkeleySieve x = Bench.program(Bench.row(0, 1), Bench.row(6, 2, 3, 4));
            BENCH.due("compile()", Bench.compile(x, text), -1);
            BENCH.due("the program", Bench.numbers(x), "0 0 0 1; 6 2 3 4");
            BENCH.due("count(2)", x.count(2), 0);
            BENCH.due("compile() of a right one", Bench.compile(x, "len=1"), 4);
            BENCH.due("the program then", Bench.numbers(x), "80 0 0 0; 15 0 1 1; 6 0 0 262144; 6 0 0 0");
        }
    }
}
