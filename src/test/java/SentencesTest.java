/**
 * The sentences of the document, from its first line on, that name no edge and so have no test of their own
 * among the "Edges"; and the example of README.md.
 */
public final class SentencesTest {
    private static final Bench BENCH = new Bench("SentencesTest");
    private static final String END = "; ret #262144; ret #0";
    private static final String[] OPERATIONS = {"add 04", "sub 14", "mul 24", "div 34", "or 44", "and 54", "lsh 64", "rsh 74",
        "mod 94", "xor a4"};
    private static final String[] JUMPS = {"jeq 15", "jgt 25", "jge 35", "jset 45"};

    public static void main(String[] args) {
        calls512();
        loads();
        operations();
        jumpsAndOthers();
        readAndWritten();
        runOnThePacket();
        numbersIntoA();
        likewiseX();
        tokens();
        formsOfInstructions();
        labelsOfJumps();
        writtenExamples();
        sumsAndProducts();
        units();
        bracketsWhereATestMayBegin();
        codeOfSums();
        codeOfOperations();
        codeOfTests();
        codeOfAnswers();
        plainerIsValid();
        constants();
        putAndLooked();
        judged();
        ranTells();
        outIsWritten();
        readme();
        BENCH.finish();
    }

    private static void calls512() {
        BENCH.says("An object is used for at most 512 calls after it has been made");
        BerkeleySieve x = new BerkeleySieve();
        for (int call = 1; call <= 200; call++) {
            BENCH.due("call " + call, x.feed(call, 0, 0, 0, 0), 20 * call);
        }
        x.end(0);
        for (int call = 202; call <= 400; call++) {
            BENCH.due("call " + call, x.put(4, 0, 0, call), call - 201);
        }
        BENCH.due("call 401", x.put(0x16, 0, 0, 0), 200);
        long sum = (202 + 400) * 199L / 2;
        for (int call = 402; call <= 510; call += 2) {
            BENCH.due("call " + call, x.run(), 1);
            BENCH.due("call " + (call + 1), x.ran(0), sum);
        }
        BENCH.due("call 512", x.plainer(), 0);
    }

    /** The text is assembled to this code, and the code is written as this text; the k of all of them is 5. */
    private static void named(String text, int code) {
        BerkeleySieve x = Bench.assembled(text);
        BENCH.due("CODE of " + text, Integer.toHexString(x.insn(0, 0)), Integer.toHexString(code));
        boolean hasNumber = text.contains("5");
        BENCH.due("K of " + text, x.insn(0, 3), hasNumber ? 5 : 0);
        BENCH.due("JT of " + text, x.insn(0, 1), 0);
        BENCH.due("JF of " + text, x.insn(0, 2), 0);
        BENCH.due("text of " + Integer.toHexString(code), Bench.written(Bench.program(Bench.row(code, 5)), 0), text);
    }

    private static void named(String[] rows) {
        for (String row : rows) {
            int space = row.lastIndexOf(' ');
            named(row.substring(0, space), Integer.parseInt(row.substring(space + 1), 16));
        }
    }

    private static void loads() {
        BENCH.says("ld #k 00, ld [k] 20, ldh [k] 28, ldb [k] 30, ld [x+k] 40, ldh [x+k] 48, ldb [x+k] 50, ld M[k] 60, ld len 80.");
        named(new String[] {"ld #5 00", "ld [5] 20", "ldh [5] 28", "ldb [5] 30", "ld [x+5] 40", "ldh [x+5] 48", "ldb [x+5] 50",
            "ld M[5] 60", "ld len 80"});
        BENCH.says("ldx #k 01, ldx M[k] 61, ldx len 81, ldx 4*([k]&0xf) b1. st M[k] 02, stx M[k] 03.");
        named(new String[] {"ldx #5 01", "ldx M[5] 61", "ldx len 81", "ldx 4*([5]&0xf) b1", "st M[5] 02", "stx M[5] 03"});
        BENCH.says("Their names and CODES (hexadecimal):");
        for (String none : new String[] {"ldh #5", "ldb #5", "ldh M[5]", "ldb M[5]", "ldh len", "ldb len", "ldx [5]", "ldx [x+5]",
            "ld 4*([5]&0xf)", "st #5", "st [5]", "stx [x+5]", "st len"}) {
            BENCH.due("assemble() of " + none, Bench.fault(Bench.assembled(none)), "1@1");
        }
    }

    private static void operations() {
        BENCH.says("add 04, sub 14, mul 24, div 34, or 44, and 54, lsh 64, rsh 74, mod 94, xor a4: with #k; with x each 8 more;"
                + " neg 84.");
        for (String row : OPERATIONS) {
            String name = row.split(" ")[0];
            int code = Integer.parseInt(row.split(" ")[1], 16);
            named(name + " #5", code);
            named(name + " x", code + 8);
            BENCH.due(name + " with [5]", Bench.fault(Bench.assembled(name + " [5]")), "1@1");
            BENCH.due(name + " with a", Bench.fault(Bench.assembled(name + " a")), "1@1");
        }
        named("neg", 0x84);
    }

    private static void jumpsAndOthers() {
        BENCH.says("ja 05; jeq 15, jgt 25, jge 35, jset 45: with #k; with x each 8 more. ret #k 06, ret a 16. tax 07, txa 87.");
        BENCH.due("ja", Bench.numbers(Bench.assembled("ja e\nneg\ne:")), "5 0 0 1; 84 0 0 0");
        BENCH.due("ja written", Bench.written(Bench.program(Bench.row(5, 5)), 0), "ja L6");
        for (String row : JUMPS) {
            String name = row.split(" ")[0];
            int code = Integer.parseInt(row.split(" ")[1], 16);
            String behind = ",e,f\nneg\nf: neg\ne: neg";
            String rest = "; 84 0 0 0; 84 0 0 0; 84 0 0 0";
            BENCH.due(name + " with #k", Bench.numbers(Bench.assembled(name + " #7" + behind)), Integer.toHexString(code) + " 2 1 7" + rest);
            BENCH.due(name + " with x", Bench.numbers(Bench.assembled(name + " x" + behind)), Integer.toHexString(code + 8) + " 2 1 0" + rest);
            BENCH.due(name + " #k written", Bench.written(Bench.program(Bench.row(code, 2, 1, 7)), 0), name + " #7,L3,L2");
            BENCH.due(name + " x written", Bench.written(Bench.program(Bench.row(code + 8, 2, 1, 7)), 0), name + " x,L3,L2");
        }
        named(new String[] {"ret #5 06", "ret a 16", "tax 07", "txa 87"});
    }

    private static void readAndWritten() {
        int[] ret = Bench.row(6, 0);
        for (int k = 0; k < 16; k++) {
            for (int read : new int[] {0x60, 0x61}) {
                BENCH.says("5 M[k] is read (ld, ldx), and");
                BENCH.due("why() of a read of " + k, Bench.program(Bench.row(read, k), ret).why(), 5);
                BENCH.says("there is a way from instruction 0 to here (each jump both ways) on which it was not written (st, stx);");
                for (int write : new int[] {2, 3}) {
                    BENCH.due("why() behind a write of " + k, Bench.program(Bench.row(write, k), Bench.row(read, k), ret).why(), 0);
                    int other = (k + 1) % 16;
                    BENCH.due("why() behind a write of " + other, Bench.program(Bench.row(write, other), Bench.row(read, k), ret).why(), 5);
                }
            }
        }
        BENCH.says("5 M[k] is read (ld, ldx), and");
        for (int other : new int[] {0x00, 0x20, 0x40, 0x80, 0x01, 0x81, 0xb1, 0x02, 0x03, 0x04}) {
            BENCH.due("why() of what reads no word", Bench.program(Bench.row(other, 3), ret).why(), 0);
        }
    }

    private static void runOnThePacket() {
        BENCH.says("A RUN of a VALID PROGRAM on the PACKET (0 .. 600 BYTES),");
        for (int size : new int[] {0, 1, 4, 599, 600}) {
            BerkeleySieve x = new BerkeleySieve();
            BENCH.due("packet() of " + size, Bench.packet(x, new int[size]), size);
            Bench.assemble(x, "ld len\nret a");
            BENCH.due("run()", x.run(), 1);
            BENCH.due("len", x.ran(0), size);
            // The next program is run on the packet that is still there.
            Bench.assemble(x, "ldx len\ntxa\nsub #1\ntax\nldb [x+0]\nret #9");
            BENCH.due("run() to the last byte of " + size, x.run(), size > 0 ? 1 : 0);
        }
    }

    private static String aAndX(String text) {
        BerkeleySieve x = new BerkeleySieve();
        Bench.packet(x, 0x91, 0x82, 0x73, 0x64, 0x55);
        Bench.assemble(x, text + "\nret #1");
        x.run();
        return Integer.toHexString(x.ran(2)) + " " + Integer.toHexString(x.ran(3));
    }

    private static void numbersIntoA() {
        BENCH.says("ld #k: A is K. [k]:");
        BENCH.due("ld #k", aAndX("ld #4294967295"), "ffffffff 0");
        BENCH.due("ld [k]", aAndX("ld [1]"), "82736455 0");
        BENCH.due("ldh [k]", aAndX("ldh [1]"), "8273 0");
        BENCH.due("ldb [k]", aAndX("ldb [1]"), "82 0");
        BENCH.due("ld [x+k]", aAndX("ldx #1\nld [x+0]"), "82736455 1");
        BENCH.due("ldh [x+k]", aAndX("ldx #1\nldh [x+2]"), "6455 1");
        BENCH.due("ldb [x+k]", aAndX("ldx #1\nldb [x+3]"), "55 1");
        BENCH.due("ld len", aAndX("ld len"), "5 0");
        BENCH.due("ld M[k]", aAndX("ldx #6\nstx M[3]\nld M[3]"), "6 6");
    }

    private static void likewiseX() {
        BENCH.says("ldx likewise X; 4*([k]&0xf):");
        BENCH.due("ldx #k", aAndX("ldx #4294967295"), "0 ffffffff");
        BENCH.due("ldx len", aAndX("ldx len"), "0 5");
        BENCH.due("ldx M[k]", aAndX("ld #6\nst M[3]\nldx M[3]"), "6 6");
        BENCH.due("ldx 4*([k]&0xf)", aAndX("ldx 4*([2]&0xf)"), "0 c");
        BENCH.due("ldx 4*([k]&0xf) of 0x64", aAndX("ldx 4*([3]&0xf)"), "0 10");
    }

    private static void tokens() {
        BENCH.says(", NUMBERS, M, # [ ] + * ( ) & , :. NUMBERS: digits, or");
        for (int sign = 0; sign < 256; sign++) {
            boolean ends = sign == ' ' || sign == '\n' || sign == ';';
            BENCH.due("byte " + sign + " behind an instruction", Bench.fault(Bench.assembled("ret a " + (char) sign)), ends ? "0@-1" : "1@1");
            boolean letter = sign >= 'a' && sign <= 'z';
            BENCH.due("byte " + sign + " alone", Bench.fault(Bench.assembled("" + (char) sign)), ends ? "0@-1" : letter ? "2@1" : "1@1");
        }
        String[] together = {"ld#5 0", "ld[5] 20", "ld[x+5] 40", "ldM[5] 60"};
        for (String row : together) {
            String[] parts = row.split(" ");
            BENCH.due("tokens without blanks: " + parts[0], Bench.numbers(Bench.assembled(parts[0])), parts[1] + " 0 0 5");
        }
        for (String number : new String[] {"5", "05", "0x5", "0x05", "0x00000005", "0000000000000005"}) {
            BENCH.due("number " + number, Bench.assembled("ld #" + number).insn(0, 3), 5);
        }
    }

    private static void formsOfInstructions() {
        BENCH.says("Instructions as in 1, k being a NUMBER; \"M[k]\", \"[x+k]\",");
        String[] rows = {"ld # %s 00", "ld [ %s ] 20", "ldh [ %s ] 28", "ldb [ %s ] 30", "ld [ x + %s ] 40", "ldh [ x + %s ] 48",
            "ldb [ x + %s ] 50", "ld M [ %s ] 60", "ldx # %s 01", "ldx M [ %s ] 61", "ldx 4 * ( [ %s ] & 0xf ) b1", "st M [ %s ] 02",
            "stx M [ %s ] 03", "ret # %s 06"};
        for (String row : rows) {
            int space = row.lastIndexOf(' ');
            String code = Integer.toHexString(Integer.parseInt(row.substring(space + 1), 16));
            String form = row.substring(0, space);
            for (String number : new String[] {"11", "0xb"}) {
                String text = form.replace("%s", number);
                BENCH.due(text, Bench.numbers(Bench.assembled(text)), code + " 0 0 11");
                // All blanks but the one behind the name.
                String tight = text.replace(" ", "").replaceFirst("^(ldx|ldh|ldb|ld|stx|st|ret)", "$1 ");
                BENCH.due(tight, Bench.numbers(Bench.assembled(tight)), code + " 0 0 11");
            }
            for (String number : new String[] {"x", "-1", "b", "", "#1", "1 1"}) {
                String text = form.replace("%s", number);
                BENCH.due(text, Bench.fault(Bench.assembled(text)), "1@1");
            }
        }
    }

    private static void labelsOfJumps() {
        BENCH.says("; of add .. xor \"#\" k or x; ja LABEL; jeq .. jset \"#\" k or x, \",\", LABEL,");
        String end = "\nneg\ne: neg";
        for (String right : new String[] {"ja e", "jeq #1,e", "jgt x,e", "jge # 1 , e , e", "jset x,e,e", "xor #1", "mod x"}) {
            BENCH.due(right, Bench.assembled(right + end).count(0), 3);
        }
        for (String wrong : new String[] {"ja", "ja #1", "ja 1", "ja x+1", "ja e,e", "jeq e", "jeq #1", "jeq #1 e", "jeq x e", "jeq 1,e",
            "jeq #x,e", "jeq a,e", "jeq M[1],e", "jeq [1],e", "jset #1,1", "jset #1,e,1", "jset #1,e e", "add 1", "add #x", "xor"}) {
            BENCH.due(wrong, Bench.fault(Bench.assembled(wrong + end)), "1@1");
        }
    }

    private static void writtenExamples() {
        BENCH.says("WRITTEN is an instruction as in 1:");
        // The second of two, so that a jump's number isn't its distance.
        int[] first = Bench.row(0x84, 0);
        BENCH.says("\"ja L5\", \"jeq #2048,L3,L7\", \"ldx 4*([14]&0xf)\"");
        BENCH.due("ja", Bench.written(Bench.program(first, Bench.row(5, 3)), 1), "ja L5");
        BENCH.due("jeq", Bench.written(Bench.program(first, Bench.row(0x15, 1, 5, 2048)), 1), "jeq #2048,L3,L7");
        BENCH.due("ldx", Bench.written(Bench.program(first, Bench.row(0xb1, 14)), 1), "ldx 4*([14]&0xf)");
    }

    private static void code(String text, String due) {
        BerkeleySieve x = Bench.compiled(text);
        BENCH.due("fault of " + text, Bench.fault(x), "0@-1");
        BENCH.due("program of " + text, Bench.listing(x), due + END);
    }

    private static void sumsAndProducts() {
        BENCH.says("SUM: PROD { (+ | -) PROD }. PROD: UNIT { (* | / | % | & | \"|\" | ^ | \"<<\" | \">>\") UNIT }");
        for (String sign : new String[] {"*", "/", "%", "&", "|", "^", "<<", ">>"}) {
            String name = nameOf(sign);
            for (String outer : new String[] {"+", "-"}) {
                // A product is one part of a sum, on either side.
                code("len" + outer + "5" + sign + "3=1", "ld #5; " + name + " #3; st M[0]; ld len; ldx M[0]; " + nameOf(outer)
                        + " x; jeq #1,L7,L8");
                code("len" + sign + "5" + outer + "3=1", "ld len; " + name + " #5; " + nameOf(outer) + " #3; jeq #1,L4,L5");
            }
        }
        code("len-5+3=1", "ld len; sub #5; add #3; jeq #1,L4,L5");
        code("len+5-3=1", "ld len; add #5; sub #3; jeq #1,L4,L5");
    }

    private static String nameOf(String sign) {
        String[] rows = {"+ add", "- sub", "* mul", "/ div", "% mod", "& and", "| or", "^ xor", "<< lsh", ">> rsh"};
        for (String row : rows) {
            if (row.startsWith(sign + " ")) {
                return row.substring(sign.length() + 1);
            }
        }
        return "";
    }

    private static void units() {
        BENCH.says("UNIT: a NUMBER, \"len\", \"[\" SUM \"]\",");
        code("7=1", "ld #7; jeq #1,L2,L3");
        code("0x7=1", "ld #7; jeq #1,L2,L3");
        code("len=1", "ld len; jeq #1,L2,L3");
        code("[7]=1", "ldb [7]; jeq #1,L2,L3");
        code("[len+7]=1", "ld len; add #7; tax; ldb [x+0]; jeq #1,L5,L6");
        code("[len+7:2]=1", "ld len; add #7; tax; ldh [x+0]; jeq #1,L5,L6");
        BENCH.says(", \"(\" SUM \")\".");
        code("(len+7)*2=1", "ld len; add #7; mul #2; jeq #1,L4,L5");
        code("2*(len+7)=1", "ld len; add #7; st M[0]; ld #2; ldx M[0]; mul x; jeq #1,L7,L8");
        code("1<(len)", "ld len; st M[0]; ld #1; ldx M[0]; jge x,L6,L5");
    }

    private static void bracketsWhereATestMayBegin() {
        BENCH.says("A \"(\" where a TEST may begin is that of OR, if what it holds up to its \")\" has, outside of brackets [ ],");
        code("(len=1)", "ld len; jeq #1,L2,L3");
        code("((len)=1)", "ld len; jeq #1,L2,L3");
        code("((len=1))and(2)=2", "ld len; jeq #1,L2,L5; ld #2; jeq #2,L4,L5");
        code("(len)=1 or (2=2)", "ld len; jeq #1,L4,L2; ld #2; jeq #2,L4,L5");
        // What stands behind its ")" doesn't count, nor what a bracket beside it holds.
        code("(len)=1 and 2=2", "ld len; jeq #1,L2,L5; ld #2; jeq #2,L4,L5");
        code("(1)+(2)=3", "ld #1; add #2; jeq #3,L3,L4");
        code("([len]=1)", "ld len; tax; ldb [x+0]; jeq #1,L4,L5");
        code("([len<<1]>>2)=1", "ld len; lsh #1; tax; ldb [x+0]; rsh #2; jeq #1,L6,L7");
        code("not (not (len)=1)", "ld len; jeq #1,L2,L3");
        for (String marked : new String[] {"(len=1)~+1=2", "(len=1)~=2", "([len~=1])=1", "([len ~or 1])=1", "(len)~", "(len) ~or 1=1"}) {
            int place = marked.indexOf('~');
            BENCH.due("fault of " + marked, Bench.fault(Bench.compiled(marked.replace("~", ""))), "7@" + place);
        }
    }

    private static void codeOfSums() {
        BENCH.says("d is how deep it is (0 for both SUMS of a TEST): NUMBER: ld #k. len: ld len. [ S ], [ S : n ]:");
        code("4294967295=1", "ld #4294967295; jeq #1,L2,L3");
        code("len=1", "ld len; jeq #1,L2,L3");
        code("1-len=2", "ld len; st M[0]; ld #1; ldx M[0]; sub x; jeq #2,L6,L7");
        code("1=2-len", "ld len; st M[0]; ld #2; ldx M[0]; sub x; st M[0]; ld #1; ldx M[0]; jeq x,L9,L10");
        BENCH.says(": CODE of l at d, op #k). ( S ): as S.");
        code("1-len-2=3", "ld len; st M[0]; ld #1; ldx M[0]; sub x; sub #2; jeq #3,L7,L8");
        code("(1-len)-2=3", "ld len; st M[0]; ld #1; ldx M[0]; sub x; sub #2; jeq #3,L7,L8");
        code("((((len))))=((3))", "ld len; jeq #3,L2,L3");
    }

    private static void codeOfOperations() {
        BENCH.says("(\"/\" div, \"%\" mod, \"&\" and, \"|\" or, \"^\" xor, \"<<\" lsh, \">>\" rsh; but");
        for (String sign : new String[] {"+", "-", "*", "/", "%", "&", "|", "^", "<<", ">>"}) {
            code("len" + sign + "[3]=1", "ldb [3]; st M[0]; ld len; ldx M[0]; " + nameOf(sign) + " x; jeq #1,L6,L7");
            code("len" + sign + "3=1", "ld len; " + nameOf(sign) + " #3; jeq #1,L3,L4");
        }
        BENCH.says("l op r:");
        code("(len-1)-(len-2)=1", "ld len; sub #2; st M[0]; ld len; sub #1; ldx M[0]; sub x; jeq #1,L8,L9");
        code("1-(2-(3-len))=1", "ld len; st M[0]; ld #3; ldx M[0]; sub x; st M[0]; ld #2; ldx M[0]; sub x; st M[0]; ld #1; ldx M[0];"
                + " sub x; jeq #1,L14,L15");
    }

    private static void codeOfTests() {
        BENCH.says("CODE of a TEST, with where to go for yes and for no:");
        code("len=1", "ld len; jeq #1,L2,L3");
        code("1>len", "ld len; st M[0]; ld #1; ldx M[0]; jgt x,L5,L6");
        BENCH.says("Jumps: = jeq, != jeq turned round, > jgt, <= jgt turned round, >= jge, < jge turned round.");
        String[] rows = {"= jeq", "!= jeq !", "> jgt", "<= jgt !", ">= jge", "< jge !"};
        for (String row : rows) {
            String[] parts = row.split(" ");
            boolean turned = parts.length == 3;
            code("len" + parts[0] + "7", "ld len; " + parts[1] + (turned ? " #7,L3,L2" : " #7,L2,L3"));
            code("7" + parts[0] + "len", "ld len; st M[0]; ld #7; ldx M[0]; " + parts[1] + (turned ? " x,L6,L5" : " x,L5,L6"));
            BENCH.says("NOT: turned round.");
            code("not len" + parts[0] + "7", "ld len; " + parts[1] + (turned ? " #7,L2,L3" : " #7,L3,L2"));
        }
    }

    private static void codeOfAnswers() {
        BENCH.says("a and b: a with yes to b's begin, no to no; b.");
        code("1=1 and len=[2]", "ld #1; jeq #1,L2,L8; ldb [2]; st M[0]; ld len; ldx M[0]; jeq x,L7,L8");
        code("not(1=1 and 2=2)", "ld #1; jeq #1,L2,L4; ld #2; jeq #2,L5,L4");
        BENCH.says("a or b: a with yes to yes, no to b's begin; b.");
        code("1=1 or len=[2]", "ld #1; jeq #1,L7,L2; ldb [2]; st M[0]; ld len; ldx M[0]; jeq x,L7,L8");
        code("not(1=1 or 2=2)", "ld #1; jeq #1,L5,L2; ld #2; jeq #2,L5,L4");
        code("(1=1 or 2=2) and (3=3 or 4=4)", "ld #1; jeq #1,L4,L2; ld #2; jeq #2,L4,L9; ld #3; jeq #3,L8,L6; ld #4; jeq #4,L8,L9");
        BENCH.says("The whole: its CODE, then ret #262144 (yes), ret #0 (no). An EXPRESSION can't be,");
        BerkeleySieve x = Bench.compiled("len=0");
        BENCH.due("the program", Bench.numbers(x), "80 0 0 0; 15 0 1 0; 6 0 0 262144; 6 0 0 0");
        BENCH.due("run() for yes", x.run(), 1);
        BENCH.due("what it returned for yes", x.ran(0), 262144);
        Bench.packet(x, 1);
        BENCH.due("run() for no", x.run(), 1);
        BENCH.due("what it returned for no", x.ran(0), 0);
        BENCH.due("where it ended for no", x.ran(4), 3);
    }

    private static void plainerIsValid() {
        BENCH.says("PLAINER is a VALID PROGRAM made so:");
        String[] texts = {"ja e\nneg\ne: ret a", "jeq #1,e,e\nneg\ne: ret a", "st M[1]\nld M[1]\nld M[1]\nret a", "ret a\nld M[3]\nret a",
            "jeq #1,a\nst M[2]\nja b\na: stx M[2]\nb: ld #1\nld M[2]\nret a", "add #0\nret a"};
        for (String text : texts) {
            BerkeleySieve x = Bench.assembled(text);
            BENCH.due("plainer() does something in " + text, x.plainer() > 0, true);
            BENCH.due("why() of the plainer one of " + text, x.why(), 0);
            BENCH.due("plainer() of the plainer one of " + text, x.plainer(), 0);
        }
        BENCH.says("The PROGRAM is made PLAINER:");
        BerkeleySieve x = Bench.assembled("ld #1\nld len\nadd #0\nret a");
        BENCH.due("plainer()", x.plainer(), 2);
        BENCH.due("the program then", Bench.listing(x), "ld len; ret a");
        BENCH.due("count(0) then", x.count(0), 2);
    }

    private static void constants() {
        BENCH.says("The constants: `NONE = -1`: There is none.");
        BENCH.due("NONE", BerkeleySieve.NONE, -1);
    }

    private static void putAndLooked() {
        BENCH.says("An INSTRUCTION comes to the end of the PROGRAM: how many it has.");
        BerkeleySieve x = Bench.assembled("neg\nret a");
        BENCH.due("put() behind what was assembled", x.put(0x15, 3, 4, 0x80000001), 3);
        BENCH.due("put() of one that isn't there", x.put(0x1234, 255, 0, -1), 4);
        BENCH.says("Of INSTRUCTION i: 0 CODE, 1 JT, 2 JF, 3 K.");
        BENCH.due("all of them", Bench.numbers(x), "84 0 0 0; 16 0 0 0; 15 3 4 2147483649; 1234 255 0 4294967295");
        BENCH.due("insn(2, 3)", x.insn(2, 3), 0x80000001);
        BENCH.says("how many INSTRUCTIONS.");
        BENCH.due("assemble()", Bench.assemble(x, "neg\n; neg\na:\nret a"), 2);
        BENCH.due("compile()", Bench.compile(x, "len=1 or len=2"), 6);
        BENCH.due("compile() that leaves it", Bench.compile(x, "len"), -1);
        BENCH.due("put() behind what was compiled", x.put(6, 0, 0, 0), 7);
        BENCH.says("Of the latest assemble() or compile():");
        BENCH.due("fault of compile()", Bench.fault(x), "7@3");
        Bench.assemble(x, "neg\nfoo");
        BENCH.due("fault of assemble()", Bench.fault(x), "2@2");
        Bench.compile(x, "len=1");
        BENCH.due("fault of a right one", Bench.fault(x), "0@-1");
    }

    private static void judged() {
        int[] ret = Bench.row(6, 0);
        int[] zero = Bench.row(0x34, 0);
        for (int ahead = 0; ahead < 5; ahead++) {
            BerkeleySieve x = new BerkeleySieve();
            for (int n = 0; n < ahead; n++) {
                x.put(0x84, 0, 0, 0);
            }
            x.put(zero[0], 0, 0, 0);
            x.put(255, 0, 0, 0);
            x.put(ret[0], 0, 0, 0);
            BENCH.says("The first INSTRUCTION with a FAULT;");
            BENCH.due("bad() behind " + ahead, x.bad(), ahead);
            BENCH.says("The FAULT of that;");
            BENCH.due("why() behind " + ahead, x.why(), 4);
        }
        BENCH.due("why() asked first", Bench.program(ret, Bench.row(255, 0)).why(), 1);
        BENCH.due("bad() asked first", Bench.program(ret, Bench.row(255, 0)).bad(), 1);
    }

    private static void ranTells() {
        BENCH.says("A RUN:");
        BerkeleySieve x = new BerkeleySieve();
        Bench.packet(x, 1, 2, 3, 4);
        StringBuilder text = new StringBuilder();
        for (int word = 0; word < 16; word++) {
            text.append("ld #").append(100 + word).append("\nst M[").append(word).append("]\n");
        }
        Bench.assemble(x, text + "ldx #7\nld #8\nret #9\n");
        BENCH.due("run()", x.run(), 1);
        BENCH.says(": 0 what it returned, 1 steps, 2 A, 3 X, 4 the INSTRUCTION at which it ended, 10 to 25 M[0] to M[15].");
        int[] due = {9, 35, 8, 7, 34};
        for (int what = 0; what < due.length; what++) {
            BENCH.due("ran(" + what + ")", x.ran(what), due[what]);
        }
        for (int word = 0; word < 16; word++) {
            BENCH.due("ran(" + (10 + word) + ")", x.ran(10 + word), 100 + word);
        }
        Bench.assemble(x, "ldx #3\nstx M[5]\nld #6\nldh [x+0]\nret #9");
        BENCH.due("run() that breaks off", x.run(), 0);
        int[] broken = {0, 4, 6, 3, 3};
        for (int what = 0; what < broken.length; what++) {
            BENCH.due("ran(" + what + ") then", x.ran(what), broken[what]);
        }
        BENCH.due("ran(15) then", x.ran(15), 3);
        BENCH.due("ran(16) then", x.ran(16), 0);
    }

    private static void outIsWritten() {
        BENCH.says("OUT is INSTRUCTION i WRITTEN: how many signs;");
        BerkeleySieve x = Bench.assembled("ldx 4*([14]&0xf)\nneg\nret #4294967295");
        String[] due = {"ldx 4*([14]&0xf)", "neg", "ret #4294967295"};
        for (int i : new int[] {0, 1, 2, 1, 0}) {
            BENCH.due("write(" + i + ")", x.write(i), due[i].length());
            BENCH.due("count(3)", x.count(3), due[i].length());
            for (int at = 0; at < due[i].length(); at++) {
                BENCH.due("out(" + at + ")", x.out(at), due[i].charAt(at));
            }
            BENCH.due("out() behind it", x.out(due[i].length()), -1);
        }
    }

    /** The three examples of README.md. */
    private static void readme() {
        BENCH.says("README.md");
        BerkeleySieve sieve = new BerkeleySieve();
        BENCH.due("feed()", sieve.feed(0x6c656e20, 0x3e203130, 0, 0, 0), 20);
        BENCH.due("end(8)", sieve.end(8), true);
        BENCH.due("compile()", sieve.compile(), 4);
        BENCH.due("feed()", sieve.feed(0, 0, 0, 0, 0), 20);
        BENCH.due("packet()", sieve.packet(), 20);
        BENCH.due("run()", sieve.run(), 1);
        BENCH.due("ran(0)", sieve.ran(0), 262144);
        Bench.tape(sieve, "ld #1\nld len\njgt #64,big\nret #0\nbig: ret a");
        BENCH.due("assemble()", sieve.assemble(), 5);
        BENCH.due("why()", sieve.why(), 0);
        BENCH.due("plainer()", sieve.plainer(), 1);
        BENCH.due("write(1)", sieve.write(1), 13);
        BENCH.due("what is written", Bench.written(sieve, 1), "jgt #64,L3,L2");
        Bench.tape(sieve, "ld len\nret b");
        BENCH.due("assemble() of a wrong one", sieve.assemble(), -1);
        BENCH.due("its fault", Bench.fault(sieve), "1@2");
        BENCH.due("count(0)", sieve.count(0), 4);
    }
}
