/**
 * A bench for packet filters of the classic BSD kind: programs are told, assembled from text or
 * made of an expression; they are judged, made plainer, written as text and run on packets.
 */
public final class BerkeleySieve {
    public static final int NONE = -1;

    private static final int TAPE_BYTES = 4000;
    private static final int PACKET_BYTES = 600;
    private static final int EXPRESSION_BYTES = 400;
    private static final int WRITTEN_SIGNS = 64;
    private static final int WRONG_EXPRESSION = 7;
    private static final int IMPOSSIBLE_EXPRESSION = 8;
    private static final int NO_INSTRUCTIONS = 7;

    private final Bytes tape;
    private final Bytes frame;
    private final Bytes written;
    private final Judge judge;
    private final Machine machine;
    private final Simplifier simplifier;
    private final Writer writer;
    private final Assembler assembler;
    private final Parser parser;
    private final Coder coder;
    private Program program;
    // What is assembled or compiled comes here first, so that an error leaves the program alone.
    private Program draft;
    private int error;
    private int errorPlace;

    public BerkeleySieve() {
        tape = new Bytes(TAPE_BYTES);
        frame = new Bytes(PACKET_BYTES);
        written = new Bytes(WRITTEN_SIGNS);
        program = new Program();
        draft = new Program();
        Reader reader = new Reader(tape);
        Tree tree = new Tree();
        judge = new Judge();
        machine = new Machine();
        simplifier = new Simplifier();
        writer = new Writer(written);
        assembler = new Assembler(reader, draft);
        parser = new Parser(reader, tree);
        coder = new Coder(tree, draft);
        error = 0;
        errorPlace = NONE;
    }

    public int feed(int a, int b, int c, int d, int e) {
        if (tape.size() + 20 > TAPE_BYTES) {
            return NONE;
        }
        tape.addNumber(a);
        tape.addNumber(b);
        tape.addNumber(c);
        tape.addNumber(d);
        tape.addNumber(e);
        return tape.size();
    }

    public boolean end(int n) {
        return tape.shorten(n);
    }

    public int put(int code, int jt, int jf, int k) {
        if (code < 0 || code > 65535 || jt < 0 || jt > 255 || jf < 0 || jf > 255) {
            return NONE;
        }
        return program.add(code, jt, jf, k) ? program.size() : NONE;
    }

    public int clear() {
        int had = program.size();
        program.empty();
        return had;
    }

    public int assemble() {
        draft.empty();
        error = assembler.translate(draft);
        errorPlace = error == 0 ? NONE : assembler.line();
        tape.shorten(0);
        return takeDraft();
    }

    public int compile() {
        draft.empty();
        error = IMPOSSIBLE_EXPRESSION;
        errorPlace = NONE;
        if (tape.size() <= EXPRESSION_BYTES) {
            int root = parser.expression();
            if (root < 0) {
                error = WRONG_EXPRESSION;
                errorPlace = parser.place();
            } else if (coder.translate(root, draft)) {
                error = 0;
            }
        }
        tape.shorten(0);
        return takeDraft();
    }

    private int takeDraft() {
        if (error != 0) {
            return NONE;
        }
        Program old = program;
        program = draft;
        draft = old;
        return program.size();
    }

    public int fault(int what) {
        switch (what) {
            case 0:
                return error;
            case 1:
                return errorPlace;
            default:
                return NONE;
        }
    }

    public int bad() {
        judge.look(program);
        return judge.place();
    }

    public int why() {
        judge.look(program);
        return program.size() == 0 ? NO_INSTRUCTIONS : judge.reason();
    }

    private boolean isValid() {
        judge.look(program);
        return program.size() > 0 && judge.reason() == 0;
    }

    public int insn(int i, int what) {
        switch (what) {
            case 0:
                return program.has(i) ? program.code(i) : NONE;
            case 1:
                return program.has(i) ? program.jt(i) : NONE;
            case 2:
                return program.has(i) ? program.jf(i) : NONE;
            case 3:
                return program.has(i) ? program.k(i) : 0;
            default:
                return NONE;
        }
    }

    public int packet() {
        if (tape.size() > PACKET_BYTES) {
            return NONE;
        }
        frame.shorten(0);
        for (int i = 0; i < tape.size(); i++) {
            frame.add(tape.at(i));
        }
        tape.shorten(0);
        return frame.size();
    }

    public int run() {
        if (!isValid()) {
            return NONE;
        }
        return machine.work(program, frame) ? 1 : 0;
    }

    public int ran(int what) {
        switch (what) {
            case 0:
                return machine.returned();
            case 1:
                return machine.steps();
            case 2:
                return machine.accumulator();
            case 3:
                return machine.index();
            case 4:
                return machine.last();
            default:
                return what >= 10 && what <= 25 ? machine.word(what - 10) : 0;
        }
    }

    public int plainer() {
        return isValid() ? simplifier.simplify(program) : NONE;
    }

    public int write(int i) {
        if (!program.has(i)) {
            return NONE;
        }
        writer.instruction(program, i);
        return written.size();
    }

    public int out(int i) {
        return written.at(i);
    }

    public int count(int what) {
        switch (what) {
            case 0:
                return program.size();
            case 1:
                return frame.size();
            case 2:
                return tape.size();
            case 3:
                return written.size();
            default:
                return NONE;
        }
    }

    /** A row of bytes that grows up to its room; four share a number, since every element counts. */
    private static final class Bytes {
        private final int[] row;
        private final int room;
        private int size;

        Bytes(int room) {
            this.room = Math.max(room, 0);
            row = new int[this.room / 4 + 1];
            size = 0;
        }

        int size() {
            return size;
        }

        int at(int i) {
            return i >= 0 && i < size ? row[i / 4] >>> 8 * (i % 4) & 255 : NONE;
        }

        void add(int value) {
            if (size < room) {
                int shift = 8 * (size % 4);
                row[size / 4] = row[size / 4] & ~(255 << shift) | (value & 255) << shift;
                size++;
            }
        }

        void addNumber(int number) {
            add(number >>> 24);
            add(number >>> 16);
            add(number >>> 8);
            add(number);
        }

        boolean shorten(int n) {
            if (n < 0 || n > size) {
                return false;
            }
            size = n;
            return true;
        }
    }

    /** A row of instructions, and the table of those that there are. */
    private static final class Program {
        static final int MOST = 200;
        static final int FARTHEST = 255;
        static final int WORDS = 16;
        static final long NUMBER = 0xffffffffL;

        static final int LD_NUMBER = 0x00;
        static final int LD_WORD = 0x60;
        static final int LD_LEN = 0x80;
        static final int LDX_WORD = 0x61;
        static final int ST = 0x02;
        static final int STX = 0x03;
        static final int JA = 0x05;
        static final int RET_NUMBER = 0x06;
        static final int RET_A = 0x16;
        static final int TAX = 0x07;
        static final int TXA = 0x87;
        static final int WITH_X = 0x08;

        // What stands behind a name.
        static final int BARE = 0;
        static final int NUMBERED = 1;
        static final int INDEX = 2;
        static final int ACCUMULATOR = 3;
        static final int PLACE = 4;
        static final int PLACE_BEHIND_X = 5;
        static final int WORD = 6;
        static final int LENGTH = 7;
        static final int HEADER = 8;
        static final int LABEL = 9;

        // Every name has four signs here, so that its number tells its place.
        static final String NAMES =
                "ld  ldh ldb ldx st  stx add sub mul div or  and lsh rsh mod xor neg ja  jeq jgt jge jsetret tax txa ";
        static final int NAME_SIGNS = 4;
        static final int NAME_JA = 17;

        // The table's rows go up by their codes, so that a code is found by halving.
        private static final int[] CODES = {
            0x00, 0x01, 0x02, 0x03, 0x04, 0x05, 0x06, 0x07, 0x0c,
            0x14, 0x15, 0x16, 0x1c, 0x1d, 0x20, 0x24, 0x25, 0x28, 0x2c, 0x2d,
            0x30, 0x34, 0x35, 0x3c, 0x3d, 0x40, 0x44, 0x45, 0x48, 0x4c, 0x4d,
            0x50, 0x54, 0x5c, 0x60, 0x61, 0x64, 0x6c, 0x74, 0x7c,
            0x80, 0x81, 0x84, 0x87, 0x94, 0x9c, 0xa4, 0xac, 0xb1};
        private static final int[] NAME_OF = {
            0, 3, 4, 5, 6, 17, 22, 23, 6,
            7, 18, 22, 7, 18, 0, 8, 19, 1, 8, 19,
            2, 9, 20, 9, 20, 0, 10, 21, 1, 10, 21,
            2, 11, 11, 0, 3, 12, 12, 13, 13,
            0, 3, 16, 24, 14, 14, 15, 15, 3};
        private static final int[] FORM_OF = {
            1, 1, 6, 6, 1, 9, 1, 0, 2,
            1, 1, 3, 2, 2, 4, 1, 1, 4, 2, 2,
            4, 1, 1, 2, 2, 5, 1, 1, 5, 2, 2,
            5, 1, 2, 6, 6, 1, 2, 1, 2,
            7, 7, 0, 0, 1, 2, 1, 2, 8};

        private final int[] code;
        private final int[] jt;
        private final int[] jf;
        private final int[] k;
        private int size;

        Program() {
            code = new int[MOST];
            jt = new int[MOST];
            jf = new int[MOST];
            k = new int[MOST];
            size = 0;
        }

        static int rowOf(int code) {
            int low = 0;
            int high = CODES.length - 1;
            for (int n = 0; n < CODES.length && low <= high; n++) {
                int middle = (low + high) >>> 1;
                if (CODES[middle] == code) {
                    return middle;
                }
                if (CODES[middle] < code) {
                    low = middle + 1;
                } else {
                    high = middle - 1;
                }
            }
            return NONE;
        }

        static int nameOf(int row) {
            return row >= 0 && row < NAME_OF.length ? NAME_OF[row] : NONE;
        }

        static int formOf(int row) {
            return row >= 0 && row < FORM_OF.length ? FORM_OF[row] : NONE;
        }

        static int codeOf(int name, int form) {
            for (int row = 0; row < CODES.length; row++) {
                if (nameOf(row) == name && formOf(row) == form) {
                    return CODES[row];
                }
            }
            return NONE;
        }

        /** Whether the code is one of jeq .. jset, whose low three bits only jumps have. */
        static boolean isBranch(int code) {
            return (code & 7) == JA && code != JA && rowOf(code) >= 0;
        }

        static boolean isReturn(int code) {
            return code == RET_NUMBER || code == RET_A;
        }

        static long unsigned(int number) {
            return number & NUMBER;
        }

        int size() {
            return size;
        }

        boolean has(int i) {
            return i >= 0 && i < size;
        }

        int code(int i) {
            return has(i) ? code[i] : NONE;
        }

        int jt(int i) {
            return has(i) ? jt[i] : 0;
        }

        int jf(int i) {
            return has(i) ? jf[i] : 0;
        }

        int k(int i) {
            return has(i) ? k[i] : 0;
        }

        void empty() {
            size = 0;
        }

        boolean add(int newCode, int newJt, int newJf, int newK) {
            if (size >= MOST) {
                return false;
            }
            code[size] = newCode;
            jt[size] = newJt;
            jf[size] = newJf;
            k[size] = newK;
            size++;
            return true;
        }

        void set(int i, int newCode, int newJt, int newJf, int newK) {
            if (has(i)) {
                code[i] = newCode;
                jt[i] = newJt;
                jf[i] = newJf;
                k[i] = newK;
            }
        }

        /** How many ways a jump has: a ja one, the others two; what is no jump none. */
        int ways(int i) {
            if (code(i) == JA) {
                return 1;
            }
            return isBranch(code(i)) ? 2 : 0;
        }

        /** To which instruction a way of a jump leads; it doesn't wrap, so none leads back. */
        long target(int i, int way) {
            if (!has(i)) {
                return NONE;
            }
            if (code[i] == JA) {
                return i + 1L + unsigned(k[i]);
            }
            return i + 1L + (way == 0 ? jt[i] : jf[i]);
        }

        void lead(int i, int way, int to) {
            int distance = to - i - 1;
            if (code(i) == JA) {
                set(i, JA, jt(i), jf(i), distance);
            } else if (way == 0) {
                set(i, code(i), distance, jf(i), k(i));
            } else {
                set(i, code(i), jt(i), distance, k(i));
            }
        }

        /** Takes one out; a jump to it keeps its distance and so leads to the one behind it. */
        void remove(int gone) {
            if (!has(gone)) {
                return;
            }
            for (int i = 0; i < gone; i++) {
                for (int way = 0; way < ways(i); way++) {
                    long to = target(i, way);
                    if (to > gone && to <= size) {
                        lead(i, way, (int) to - 1);
                    }
                }
            }
            for (int i = gone; i < size - 1; i++) {
                set(i, code(i + 1), jt(i + 1), jf(i + 1), k(i + 1));
            }
            size--;
        }
    }

    /** Finds the first instruction with a fault. */
    private static final class Judge {
        private static final int ALL_WORDS = 0xffff;

        // A bit for each word that on some way to the instruction was not written.
        private final int[] lacking;
        private int place;
        private int reason;

        Judge() {
            lacking = new int[Program.MOST];
            place = NONE;
            reason = 0;
        }

        int place() {
            return place;
        }

        int reason() {
            return reason;
        }

        void look(Program program) {
            place = NONE;
            reason = 0;
            for (int i = 0; i < Program.MOST; i++) {
                lacking[i] = 0;
            }
            lacking[0] = ALL_WORDS;
            // All ways lead on, so those to an instruction are known when it is come to.
            for (int i = 0; i < program.size() && reason == 0; i++) {
                reason = faultOf(program, i);
                if (reason == 0) {
                    passOn(program, i);
                } else {
                    place = i;
                }
            }
        }

        private int faultOf(Program program, int i) {
            int code = program.code(i);
            int row = Program.rowOf(code);
            if (row < 0) {
                return 1;
            }
            if (leadsNowhere(program, i)) {
                return 2;
            }
            long k = Program.unsigned(program.k(i));
            if (Program.formOf(row) == Program.WORD && k >= Program.WORDS) {
                return 3;
            }
            if (!mayStand(code, k)) {
                return 4;
            }
            if (reads(code) && (lackingAt(i) >> k & 1) != 0) {
                return 5;
            }
            return i == program.size() - 1 && !Program.isReturn(code) ? 6 : 0;
        }

        private static boolean leadsNowhere(Program program, int i) {
            for (int way = 0; way < program.ways(i); way++) {
                if (program.target(i, way) >= program.size()) {
                    return true;
                }
            }
            return false;
        }

        private static boolean reads(int code) {
            return code == Program.LD_WORD || code == Program.LDX_WORD;
        }

        /** Whether the number may stand behind the code; only div, mod, lsh, rsh refuse some. */
        static boolean mayStand(int code, long k) {
            switch (code) {
                case 0x34:
                case 0x94:
                    return k != 0;
                case 0x64:
                case 0x74:
                    return k <= 31;
                default:
                    return true;
            }
        }

        private int lackingAt(int i) {
            return i >= 0 && i < lacking.length ? lacking[i] : 0;
        }

        private void passOn(Program program, int i) {
            int code = program.code(i);
            int lacks = lackingAt(i);
            int k = program.k(i);
            if ((code == Program.ST || code == Program.STX) && k >= 0 && k < Program.WORDS) {
                lacks &= ~(1 << k);
            }
            for (int way = 0; way < program.ways(i); way++) {
                arrive(program.target(i, way), lacks);
            }
            if (program.ways(i) == 0 && !Program.isReturn(code)) {
                arrive(i + 1L, lacks);
            }
        }

        private void arrive(long to, int lacks) {
            if (to >= 0 && to < lacking.length) {
                lacking[(int) to] |= lacks;
            }
        }
    }

    /** Runs a valid program on a packet and keeps what came of it. */
    private static final class Machine {
        private static final int BROKEN_OFF = -1;
        private static final int RETURNED = -2;

        private final int[] words;
        private int a;
        private int x;
        private int returned;
        private int steps;
        private int last;
        private int fetched;

        Machine() {
            words = new int[Program.WORDS];
            begin();
        }

        int returned() {
            return returned;
        }

        int steps() {
            return steps;
        }

        int accumulator() {
            return a;
        }

        int index() {
            return x;
        }

        int last() {
            return last;
        }

        int word(int k) {
            return k >= 0 && k < words.length ? words[k] : 0;
        }

        private void setWord(int k, int value) {
            if (k >= 0 && k < words.length) {
                words[k] = value;
            }
        }

        private void begin() {
            for (int i = 0; i < words.length; i++) {
                words[i] = 0;
            }
            a = 0;
            x = 0;
            returned = 0;
            steps = 0;
            last = 0;
            fetched = 0;
        }

        /** Whether it came to a ret. */
        boolean work(Program program, Bytes packet) {
            begin();
            int next = 0;
            // No way leads back, so there are never more steps than instructions.
            for (int n = 0; n < Program.MOST && program.has(next); n++) {
                steps++;
                last = next;
                next = step(program, next, packet);
            }
            return next == RETURNED;
        }

        private int step(Program program, int i, Bytes packet) {
            int code = program.code(i);
            int k = program.k(i);
            switch (code & 7) {
                case 0:
                    return load(code, k, packet) ? i + 1 : BROKEN_OFF;
                case 1:
                    return loadIndex(code, k, packet) ? i + 1 : BROKEN_OFF;
                case 2:
                    setWord(k, a);
                    return i + 1;
                case 3:
                    setWord(k, x);
                    return i + 1;
                case 4:
                    return calculate(code, k) ? i + 1 : BROKEN_OFF;
                case 5:
                    return jump(program, i);
                case 6:
                    returned = code == Program.RET_A ? a : k;
                    return RETURNED;
                default:
                    move(code);
                    return i + 1;
            }
        }

        private boolean load(int code, int k, Bytes packet) {
            switch (code & 0xe0) {
                case 0x00:
                    a = k;
                    return true;
                case 0x20:
                    return loadBytes(code, Program.unsigned(k), packet);
                case 0x40:
                    return loadBytes(code, Program.unsigned(x) + Program.unsigned(k), packet);
                case 0x60:
                    a = word(k);
                    return true;
                default:
                    a = packet.size();
                    return true;
            }
        }

        private boolean loadBytes(int code, long place, Bytes packet) {
            int bytes = 4;
            if ((code & 0x18) == 0x08) {
                bytes = 2;
            } else if ((code & 0x18) == 0x10) {
                bytes = 1;
            }
            if (!fetch(place, bytes, packet)) {
                return false;
            }
            a = fetched;
            return true;
        }

        private boolean loadIndex(int code, int k, Bytes packet) {
            switch (code & 0xe0) {
                case 0x00:
                    x = k;
                    return true;
                case 0x60:
                    x = word(k);
                    return true;
                case 0x80:
                    x = packet.size();
                    return true;
                default:
                    if (!fetch(Program.unsigned(k), 1, packet)) {
                        return false;
                    }
                    x = (fetched & 15) * 4;
                    return true;
            }
        }

        private boolean fetch(long place, int bytes, Bytes packet) {
            if (place < 0 || place + bytes > packet.size()) {
                return false;
            }
            fetched = 0;
            for (int i = 0; i < bytes; i++) {
                fetched = fetched << 8 | packet.at((int) place + i);
            }
            return true;
        }

        private boolean calculate(int code, int k) {
            int other = (code & Program.WITH_X) != 0 ? x : k;
            switch (code & 0xf0) {
                case 0x00:
                    a += other;
                    return true;
                case 0x10:
                    a -= other;
                    return true;
                case 0x20:
                    a *= other;
                    return true;
                case 0x40:
                    a |= other;
                    return true;
                case 0x50:
                    a &= other;
                    return true;
                case 0x60:
                    a = other >= 0 && other < 32 ? a << other : 0;
                    return true;
                case 0x70:
                    a = other >= 0 && other < 32 ? a >>> other : 0;
                    return true;
                case 0x80:
                    a = -a;
                    return true;
                case 0xa0:
                    a ^= other;
                    return true;
                default:
                    return divide(code, other);
            }
        }

        private boolean divide(int code, int other) {
            if (other == 0) {
                return false;
            }
            long first = Program.unsigned(a);
            long second = Program.unsigned(other);
            a = (int) ((code & 0xf0) == 0x30 ? first / second : first % second);
            return true;
        }

        private int jump(Program program, int i) {
            int code = program.code(i);
            long to = program.target(i, 0);
            if (code != Program.JA && !holds(code, program.k(i))) {
                to = program.target(i, 1);
            }
            return to < program.size() ? (int) to : BROKEN_OFF;
        }

        private boolean holds(int code, int k) {
            int other = (code & Program.WITH_X) != 0 ? x : k;
            switch (code & 0xf0) {
                case 0x10:
                    return a == other;
                case 0x20:
                    return Program.unsigned(a) > Program.unsigned(other);
                case 0x30:
                    return Program.unsigned(a) >= Program.unsigned(other);
                default:
                    return (a & other) != 0;
            }
        }

        private void move(int code) {
            if (code == Program.TAX) {
                x = a;
            } else {
                a = x;
            }
        }
    }

    /** Makes a valid program plainer. */
    private static final class Simplifier {
        // Whatever is done either shortens a way or takes an instruction or a branch away.
        private static final int MOST_ROUNDS = 1000000;

        private final boolean[] marked;

        Simplifier() {
            marked = new boolean[Program.MOST];
        }

        /** How many times something was done. */
        int simplify(Program program) {
            int times = 0;
            for (int n = 0; n < MOST_ROUNDS; n++) {
                times += followAll(program);
                boolean done = joinWays(program)
                        || dropJumpToNext(program)
                        || dropUnreached(program)
                        || dropIdle(program)
                        || dropOverwritten(program);
                if (!done) {
                    break;
                }
                times++;
            }
            return times;
        }

        // To do this at one instruction never makes it possible at one before, so once through
        // does it as often as beginning anew each time would.
        private static int followAll(Program program) {
            int times = 0;
            for (int i = 0; i < program.size(); i++) {
                for (int way = 0; way < program.ways(i); way++) {
                    times += follow(program, i, way);
                }
            }
            return times;
        }

        private static int follow(Program program, int i, int way) {
            int times = 0;
            for (; times < Program.MOST; times++) {
                int to = reached(program, i, way);
                if (program.code(to) != Program.JA) {
                    break;
                }
                int beyond = reached(program, to, 0);
                if (beyond < 0 || tooFar(program, i, beyond)) {
                    break;
                }
                program.lead(i, way, beyond);
            }
            return times;
        }

        private static boolean tooFar(Program program, int i, int to) {
            return program.code(i) != Program.JA && to - i - 1 > Program.FARTHEST;
        }

        private static int reached(Program program, int i, int way) {
            long to = program.target(i, way);
            return to < program.size() ? (int) to : NONE;
        }

        private static boolean joinWays(Program program) {
            for (int i = 0; i < program.size(); i++) {
                if (program.ways(i) == 2 && program.jt(i) == program.jf(i)) {
                    program.set(i, Program.JA, 0, 0, program.jt(i));
                    return true;
                }
            }
            return false;
        }

        private static boolean dropJumpToNext(Program program) {
            for (int i = 0; i < program.size(); i++) {
                if (program.code(i) == Program.JA && program.k(i) == 0) {
                    program.remove(i);
                    return true;
                }
            }
            return false;
        }

        private boolean dropUnreached(Program program) {
            unmark();
            mark(0);
            for (int i = 0; i < program.size(); i++) {
                if (!isMarked(i)) {
                    program.remove(i);
                    return true;
                }
                markWays(program, i);
                if (program.ways(i) == 0 && !Program.isReturn(program.code(i))) {
                    mark(i + 1);
                }
            }
            return false;
        }

        private boolean dropIdle(Program program) {
            markJumpedTo(program);
            for (int i = 0; i < program.size(); i++) {
                if (isIdle(program.code(i), program.k(i)) && !isMarked(i)) {
                    program.remove(i);
                    return true;
                }
            }
            return false;
        }

        private static boolean isIdle(int code, int k) {
            switch (code) {
                case 0x04:
                case 0x14:
                case 0x44:
                case 0xa4:
                case 0x64:
                case 0x74:
                    return k == 0;
                case 0x24:
                case 0x34:
                    return k == 1;
                default:
                    return false;
            }
        }

        private boolean dropOverwritten(Program program) {
            markJumpedTo(program);
            for (int i = 0; i + 1 < program.size(); i++) {
                if (onlySetsA(program.code(i)) && onlySetsA(program.code(i + 1)) && !isMarked(i + 1)) {
                    program.remove(i);
                    return true;
                }
            }
            return false;
        }

        private static boolean onlySetsA(int code) {
            return code == Program.LD_NUMBER || code == Program.LD_LEN
                    || code == Program.LD_WORD || code == Program.TXA;
        }

        private void markJumpedTo(Program program) {
            unmark();
            for (int i = 0; i < program.size(); i++) {
                markWays(program, i);
            }
        }

        private void markWays(Program program, int i) {
            for (int way = 0; way < program.ways(i); way++) {
                mark(reached(program, i, way));
            }
        }

        private void unmark() {
            for (int i = 0; i < marked.length; i++) {
                marked[i] = false;
            }
        }

        private void mark(int i) {
            if (i >= 0 && i < marked.length) {
                marked[i] = true;
            }
        }

        private boolean isMarked(int i) {
            return i >= 0 && i < marked.length && marked[i];
        }
    }

    /** Writes an instruction as text. */
    private static final class Writer {
        private static final int MOST_DIGITS = 12;

        private final Bytes line;

        Writer(Bytes line) {
            this.line = line;
        }

        void instruction(Program program, int i) {
            line.shorten(0);
            int row = Program.rowOf(program.code(i));
            if (row < 0) {
                line.add('?');
                return;
            }
            name(Program.nameOf(row));
            if (Program.formOf(row) != Program.BARE) {
                line.add(' ');
            }
            operand(Program.formOf(row), Program.unsigned(program.k(i)));
            for (int way = 0; way < program.ways(i); way++) {
                if (Program.formOf(row) != Program.LABEL) {
                    line.add(',');
                }
                line.add('L');
                digits(program.target(i, way));
            }
        }

        private void name(int name) {
            int from = name * Program.NAME_SIGNS;
            for (int i = from; i >= 0 && i < from + Program.NAME_SIGNS && i < Program.NAMES.length(); i++) {
                if (Program.NAMES.charAt(i) != ' ') {
                    line.add(Program.NAMES.charAt(i));
                }
            }
        }

        private void operand(int form, long k) {
            switch (form) {
                case Program.NUMBERED:
                    around("#", k, "");
                    break;
                case Program.INDEX:
                    signs("x");
                    break;
                case Program.ACCUMULATOR:
                    signs("a");
                    break;
                case Program.PLACE:
                    around("[", k, "]");
                    break;
                case Program.PLACE_BEHIND_X:
                    around("[x+", k, "]");
                    break;
                case Program.WORD:
                    around("M[", k, "]");
                    break;
                case Program.LENGTH:
                    signs("len");
                    break;
                case Program.HEADER:
                    around("4*([", k, "]&0xf)");
                    break;
                default:
                    break;
            }
        }

        private void around(String before, long k, String behind) {
            signs(before);
            digits(k);
            signs(behind);
        }

        private void signs(String text) {
            for (int i = 0; i < text.length(); i++) {
                line.add(text.charAt(i));
            }
        }

        private void digits(long number) {
            long unit = 1;
            for (int n = 1; n < MOST_DIGITS && number / unit >= 10; n++) {
                unit *= 10;
            }
            for (; unit > 0; unit /= 10) {
                line.add('0' + (int) (number / unit % 10));
            }
        }
    }

    /** Goes through the tape from the left; where it can't go on, it stays at that byte. */
    private static final class Reader {
        private static final int LABEL_SIGNS = 8;
        private static final int BLANK = 32;
        private static final int LINE_END = 10;
        private static final int HEXADECIMAL_DIGITS = 8;

        private final Bytes text;
        private int at;
        // The latest word begins and ends here; blanks may have been passed since.
        private int wordBegin;
        private int wordEnd;
        // The latest number, if no word has come since.
        private long value;

        Reader(Bytes text) {
            this.text = text;
            rewind();
        }

        void rewind() {
            at = 0;
            wordBegin = 0;
            wordEnd = 0;
            value = 0;
        }

        int place() {
            return at;
        }

        long value() {
            return value;
        }

        void forward() {
            if (at < text.size()) {
                at++;
            }
        }

        void goBack(int place) {
            if (place >= 0 && place < at) {
                at = place;
            }
        }

        int here() {
            return text.at(at);
        }

        int next() {
            return text.at(at + 1);
        }

        /** The next byte that is no blank, NONE at the end. */
        int peek() {
            while (at < text.size() && text.at(at) == BLANK) {
                at++;
            }
            return text.at(at);
        }

        boolean take(int sign) {
            if (peek() != sign) {
                return false;
            }
            forward();
            return true;
        }

        boolean lineEnds() {
            int sign = peek();
            return sign == NONE || sign == LINE_END || sign == ';';
        }

        boolean nextLine() {
            while (at < text.size() && text.at(at) != LINE_END) {
                at++;
            }
            if (at >= text.size()) {
                return false;
            }
            at++;
            return true;
        }

        static boolean isLetter(int sign) {
            return sign >= 'a' && sign <= 'z';
        }

        static boolean isDigit(int sign) {
            return sign >= '0' && sign <= '9';
        }

        boolean word() {
            if (!isLetter(peek())) {
                return false;
            }
            value = 0;
            wordBegin = at;
            while (at < text.size() && (isLetter(text.at(at)) || isDigit(text.at(at)))) {
                at++;
            }
            wordEnd = at;
            return true;
        }

        boolean takeSigns(String signs) {
            peek();
            for (int i = 0; i < signs.length(); i++) {
                if (text.at(at) != signs.charAt(i)) {
                    return false;
                }
                forward();
            }
            return true;
        }

        /** Whether just this word comes, and not a longer one. */
        boolean keyword(String name) {
            return takeSigns(name) && !isLetter(text.at(at)) && !isDigit(text.at(at));
        }

        boolean number() {
            value = 0;
            if (!isDigit(peek())) {
                return false;
            }
            return text.at(at) == '0' && next() == 'x' ? hexadecimal() : decimal();
        }

        private boolean decimal() {
            while (at < text.size() && isDigit(text.at(at))) {
                long longer = value * 10 + text.at(at) - '0';
                if (longer > Program.NUMBER) {
                    return false;
                }
                value = longer;
                at++;
            }
            return true;
        }

        private boolean hexadecimal() {
            // The two signs 0x have been seen.
            at += 2;
            int digits = 0;
            while (digits < HEXADECIMAL_DIGITS && hexadecimalDigit(text.at(at)) >= 0) {
                value = value * 16 + hexadecimalDigit(text.at(at));
                digits++;
                at++;
            }
            return digits > 0 && hexadecimalDigit(text.at(at)) < 0;
        }

        private static int hexadecimalDigit(int sign) {
            if (sign >= '0' && sign <= '9') {
                return sign - '0';
            }
            return sign >= 'a' && sign <= 'f' ? sign - 'a' + 10 : NONE;
        }

        /** Whether the latest word was written just so. */
        boolean wasWritten(String name) {
            if (wordEnd - wordBegin != name.length()) {
                return false;
            }
            for (int i = 0; i < name.length(); i++) {
                if (text.at(wordBegin + i) != name.charAt(i)) {
                    return false;
                }
            }
            return true;
        }

        /** The number of the instruction's name that the latest word is, or NONE. */
        int instructionName() {
            int names = Program.NAMES.length() / Program.NAME_SIGNS;
            for (int name = 0; name < names; name++) {
                if (isName(name * Program.NAME_SIGNS)) {
                    return name;
                }
            }
            return NONE;
        }

        private boolean isName(int from) {
            if (wordEnd - wordBegin > Program.NAME_SIGNS) {
                return false;
            }
            for (int i = 0; i < Program.NAME_SIGNS && from + i < Program.NAMES.length(); i++) {
                int sign = wordBegin + i < wordEnd ? text.at(wordBegin + i) : BLANK;
                if (sign != Program.NAMES.charAt(from + i)) {
                    return false;
                }
            }
            return true;
        }

        /** The latest word as a number of its own, above 0; 0 if it is too long for a label. */
        long label() {
            if (wordEnd - wordBegin > LABEL_SIGNS) {
                return 0;
            }
            long packed = 0;
            for (int i = wordBegin; i < wordEnd; i++) {
                int sign = text.at(i);
                packed = packed * 37 + (isLetter(sign) ? sign - 'a' + 1 : sign - '0' + 27);
            }
            return packed;
        }
    }

    /** Makes a program of the text on the tape. */
    private static final class Assembler {
        private static final int CANT_STAND = 1;
        private static final int NO_NAME = 2;
        private static final int TOLD_TWICE = 3;
        private static final int NOT_TOLD = 4;
        private static final int TOO_FAR = 5;
        private static final int TOO_MANY = 6;
        // Each label has its colon and, but for the last one, the end of its line.
        private static final int MOST_LABELS = TAPE_BYTES / 3 + 1;
        // A label's place is kept in the lowest bits beside its name.
        private static final int PLACE_BITS = 8;

        private final Reader reader;
        private final long[] labels;
        private final long[] yesLabels;
        private final long[] noLabels;
        private final int[] lines;
        private Program program;
        private int labelsTold;
        private int line;

        Assembler(Reader reader, Program program) {
            this.reader = reader;
            this.program = program;
            labels = new long[MOST_LABELS];
            yesLabels = new long[Program.MOST];
            noLabels = new long[Program.MOST];
            lines = new int[Program.MOST];
            labelsTold = 0;
            line = 0;
        }

        int line() {
            return line;
        }

        /** The error, 0 if there is none; line() has its line then. */
        int translate(Program empty) {
            program = empty;
            labelsTold = 0;
            reader.rewind();
            for (line = 1; line <= TAPE_BYTES + 1; line++) {
                int error = beginLine();
                if (error == 0 && !reader.lineEnds()) {
                    error = instruction();
                }
                if (error != 0) {
                    return error;
                }
                if (!reader.nextLine()) {
                    break;
                }
            }
            return resolveAll();
        }

        /** Takes the label that may stand there. A word without a colon is left for later. */
        private int beginLine() {
            int begin = reader.place();
            if (!reader.word() || reader.peek() != ':') {
                reader.goBack(begin);
                return 0;
            }
            return tellLabel();
        }

        private int tellLabel() {
            long label = reader.label();
            if (label == 0) {
                return CANT_STAND;
            }
            if (placeOf(label) >= 0) {
                return TOLD_TWICE;
            }
            if (labelsTold < MOST_LABELS) {
                labels[labelsTold] = label << PLACE_BITS | program.size();
                labelsTold++;
            }
            reader.forward();
            return 0;
        }

        private int placeOf(long label) {
            for (int i = 0; i < labelsTold && i < MOST_LABELS; i++) {
                if (labels[i] >> PLACE_BITS == label) {
                    return (int) labels[i] & (1 << PLACE_BITS) - 1;
                }
            }
            return NONE;
        }

        private int instruction() {
            if (!reader.word()) {
                return CANT_STAND;
            }
            int name = reader.instructionName();
            if (name < 0) {
                return NO_NAME;
            }
            int code = Program.codeOf(name, operand(name));
            if (code < 0) {
                return CANT_STAND;
            }
            int k = (int) reader.value();
            long yes = 0;
            long no = 0;
            boolean branches = Program.isBranch(code);
            if (code == Program.JA || branches) {
                if (branches && !reader.take(',')) {
                    return CANT_STAND;
                }
                yes = label();
                boolean both = branches && reader.take(',');
                no = both ? label() : 0;
                if (yes == 0 || both && no == 0) {
                    return CANT_STAND;
                }
            }
            return reader.lineEnds() ? keep(code, k, yes, no) : CANT_STAND;
        }

        private int keep(int code, int k, long yes, long no) {
            int i = program.size();
            if (i >= Program.MOST || !program.add(code, 0, 0, k)) {
                return TOO_MANY;
            }
            lines[i] = line;
            yesLabels[i] = yes;
            noLabels[i] = no;
            return 0;
        }

        private long label() {
            return reader.word() ? reader.label() : 0;
        }

        /** The form of what stands behind the name, NONE if it has none; of a ja it is left there. */
        private int operand(int name) {
            if (Program.codeOf(name, Program.BARE) >= 0) {
                return Program.BARE;
            }
            if (name == Program.NAME_JA) {
                return Program.LABEL;
            }
            if (reader.take('#')) {
                return reader.number() ? Program.NUMBERED : NONE;
            }
            if (reader.take('[')) {
                return place();
            }
            if (reader.take('M')) {
                return reader.take('[') && reader.number() && reader.take(']') ? Program.WORD : NONE;
            }
            if (reader.word()) {
                return named();
            }
            return header() ? Program.HEADER : NONE;
        }

        private int place() {
            if (reader.word()) {
                return reader.wasWritten("x") && reader.take('+') && reader.number() && reader.take(']')
                        ? Program.PLACE_BEHIND_X : NONE;
            }
            return reader.number() && reader.take(']') ? Program.PLACE : NONE;
        }

        private int named() {
            if (reader.wasWritten("len")) {
                return Program.LENGTH;
            }
            if (reader.wasWritten("x")) {
                return Program.INDEX;
            }
            return reader.wasWritten("a") ? Program.ACCUMULATOR : NONE;
        }

        // The two numbers can't go on in another way, since a sign is due behind each.
        private boolean header() {
            return reader.takeSigns("4")
                    && reader.take('*') && reader.take('(') && reader.take('[')
                    && reader.number() && reader.take(']') && reader.take('&')
                    && reader.takeSigns("0xf") && reader.take(')');
        }

        private int resolveAll() {
            for (int i = 0; i < program.size() && i < Program.MOST; i++) {
                if (yesLabels[i] != 0) {
                    int error = resolve(i, yesLabels[i], noLabels[i]);
                    if (error != 0) {
                        line = lines[i];
                        return error;
                    }
                }
            }
            return 0;
        }

        private int resolve(int i, long yes, long no) {
            int yesPlace = placeOf(yes);
            int noPlace = no == 0 ? i + 1 : placeOf(no);
            if (yesPlace < 0 || noPlace < 0) {
                return NOT_TOLD;
            }
            if (yesPlace <= i || noPlace <= i) {
                return TOO_FAR;
            }
            if (program.code(i) == Program.JA) {
                program.lead(i, 0, yesPlace);
                return 0;
            }
            if (Math.max(yesPlace, noPlace) - i - 1 > Program.FARTHEST) {
                return TOO_FAR;
            }
            program.lead(i, 0, yesPlace);
            program.lead(i, 1, noPlace);
            return 0;
        }
    }

    /** The parts of an expression, each with those that it is made of. */
    private static final class Tree {
        // No part is told by less than one byte of its own.
        static final int MOST = EXPRESSION_BYTES;

        static final int NUMBER = 0;
        static final int LENGTH = 1;
        static final int BYTES = 2;
        static final int OPERATION = 3;
        // From here on those that answer yes or no.
        static final int TEST = 4;
        static final int NOT = 5;
        static final int AND = 6;
        static final int OR = 7;

        private final int[] kind;
        private final int[] value;
        private final int[] left;
        private final int[] right;
        private final int[] above;
        private int size;

        Tree() {
            kind = new int[MOST];
            value = new int[MOST];
            left = new int[MOST];
            right = new int[MOST];
            above = new int[MOST];
            size = 0;
        }

        void empty() {
            size = 0;
        }

        int add(int newKind, int newValue, int newLeft, int newRight) {
            if (size >= MOST) {
                return NONE;
            }
            kind[size] = newKind;
            value[size] = newValue;
            left[size] = newLeft;
            right[size] = newRight;
            above[size] = NONE;
            if (newLeft >= 0 && newLeft < size) {
                above[newLeft] = size;
            }
            size++;
            return size - 1;
        }

        private int of(int[] row, int part) {
            return part >= 0 && part < size && part < row.length ? row[part] : NONE;
        }

        int kind(int part) {
            return of(kind, part);
        }

        int value(int part) {
            return of(value, part);
        }

        int left(int part) {
            return of(left, part);
        }

        int right(int part) {
            return of(right, part);
        }

        /** That of which it is the left part. */
        int above(int part) {
            return of(above, part);
        }

        boolean answers(int part) {
            return kind(part) >= TEST;
        }
    }

    /**
     * Makes a tree of the expression on the tape. Each method answers a part, or NONE; then the
     * reader stays at the first byte with which no expression goes on.
     */
    private static final class Parser {
        static final int TURNED = 0x100;

        private static final int MOST_BRACKETS = 20;

        private final Reader reader;
        private final Tree tree;

        Parser(Reader reader, Tree tree) {
            this.reader = reader;
            this.tree = tree;
        }

        int place() {
            return reader.place();
        }

        int expression() {
            reader.rewind();
            tree.empty();
            int whole = choice(0, false);
            return whole >= 0 && reader.peek() == NONE ? whole : NONE;
        }

        /**
         * An OR. Whether a bracket holds an OR or a SUM is seen only further on, so that inside of
         * one a SUM may come instead (sumToo).
         */
        private int choice(int depth, boolean sumToo) {
            int either = NONE;
            int both = NONE;
            for (int n = 0; n < EXPRESSION_BYTES; n++) {
                int part = negation(depth, sumToo && n == 0);
                if (part < 0 || !tree.answers(part)) {
                    return part;
                }
                both = both < 0 ? part : tree.add(Tree.AND, 0, both, part);
                int sign = reader.peek();
                if (sign == 'a') {
                    if (!reader.keyword("and")) {
                        return NONE;
                    }
                } else {
                    either = either < 0 ? both : tree.add(Tree.OR, 0, either, both);
                    both = NONE;
                    if (sign != 'o') {
                        return either;
                    }
                    if (!reader.keyword("or")) {
                        return NONE;
                    }
                }
            }
            return NONE;
        }

        private int negation(int depth, boolean sumToo) {
            int nots = 0;
            while (nots < EXPRESSION_BYTES && reader.peek() == 'n') {
                if (!reader.keyword("not")) {
                    return NONE;
                }
                nots++;
            }
            int part = test(depth, sumToo && nots == 0);
            return part >= 0 && nots % 2 == 1 ? tree.add(Tree.NOT, 0, part, NONE) : part;
        }

        private int test(int depth, boolean sumToo) {
            int first = reader.peek() == '(' ? bracket(depth) : unit(depth);
            if (first < 0 || tree.answers(first)) {
                return first;
            }
            int sum = sum(first, depth);
            if (sum < 0 || sumToo && !isRelation(reader.peek())) {
                return sum;
            }
            int relation = relation();
            if (relation < 0) {
                return NONE;
            }
            int other = wholeSum(depth);
            return other < 0 ? NONE : tree.add(Tree.TEST, relation, sum, other);
        }

        /** A bracket ( where a TEST may begin. */
        private int bracket(int depth) {
            if (depth >= MOST_BRACKETS) {
                return NONE;
            }
            reader.forward();
            int part = choice(depth + 1, true);
            return part >= 0 && reader.take(')') ? part : NONE;
        }

        private static boolean isRelation(int sign) {
            return sign == '=' || sign == '!' || sign == '>' || sign == '<';
        }

        /** The jump's code for yes, with TURNED if it is for no. */
        private int relation() {
            int sign = reader.peek();
            if (!isRelation(sign)) {
                return NONE;
            }
            reader.forward();
            boolean longer = sign != '=' && reader.here() == '=';
            if (longer) {
                reader.forward();
            }
            switch (sign) {
                case '=':
                    return 0x15;
                case '!':
                    return longer ? 0x15 | TURNED : NONE;
                case '>':
                    return longer ? 0x35 : 0x25;
                default:
                    return longer ? 0x25 | TURNED : 0x35 | TURNED;
            }
        }

        /** A SUM behind which no relation may stand. */
        private int wholeSum(int depth) {
            int first = unit(depth);
            int sum = first < 0 ? NONE : sum(first, depth);
            if (sum >= 0 && (reader.peek() == '<' || reader.peek() == '>')) {
                // The first sign of a shift could stand here; it is the next one that can't.
                reader.forward();
                return NONE;
            }
            return sum;
        }

        /** A SUM of which the first unit has been read. */
        private int sum(int first, int depth) {
            int total = NONE;
            int added = 0;
            int product = first;
            for (int n = 0; n < EXPRESSION_BYTES; n++) {
                int operation = operation();
                boolean adds = operation == 0x04 || operation == 0x14;
                if (operation < 0 || adds) {
                    total = total < 0 ? product : tree.add(Tree.OPERATION, added, total, product);
                }
                if (operation < 0) {
                    return total;
                }
                takeOperation(operation);
                int unit = unit(depth);
                if (unit < 0) {
                    return NONE;
                }
                if (adds) {
                    added = operation;
                    product = unit;
                } else {
                    product = tree.add(Tree.OPERATION, operation, product, unit);
                }
            }
            return NONE;
        }

        /** The code, with a number, of the operation that comes next; NONE if none does. */
        private int operation() {
            switch (reader.peek()) {
                case '+':
                    return 0x04;
                case '-':
                    return 0x14;
                case '*':
                    return 0x24;
                case '/':
                    return 0x34;
                case '|':
                    return 0x44;
                case '&':
                    return 0x54;
                case '<':
                    return reader.next() == '<' ? 0x64 : NONE;
                case '>':
                    return reader.next() == '>' ? 0x74 : NONE;
                case '%':
                    return 0x94;
                case '^':
                    return 0xa4;
                default:
                    return NONE;
            }
        }

        private void takeOperation(int operation) {
            reader.forward();
            if (operation == 0x64 || operation == 0x74) {
                reader.forward();
            }
        }

        private int unit(int depth) {
            int sign = reader.peek();
            if (Reader.isDigit(sign)) {
                return reader.number() ? tree.add(Tree.NUMBER, (int) reader.value(), NONE, NONE) : NONE;
            }
            if (sign == 'l') {
                return reader.keyword("len") ? tree.add(Tree.LENGTH, 0, NONE, NONE) : NONE;
            }
            if (sign != '[' && sign != '(' || depth >= MOST_BRACKETS) {
                return NONE;
            }
            reader.forward();
            int sum = wholeSum(depth + 1);
            if (sum < 0) {
                return NONE;
            }
            if (sign == '(') {
                return reader.take(')') ? sum : NONE;
            }
            int bytes = howManyBytes();
            return bytes > 0 && reader.take(']') ? tree.add(Tree.BYTES, bytes, sum, NONE) : NONE;
        }

        private int howManyBytes() {
            if (!reader.take(':')) {
                return 1;
            }
            int sign = reader.peek();
            if (sign != '1' && sign != '2' && sign != '4') {
                return NONE;
            }
            reader.forward();
            return sign - '0';
        }
    }

    /** Makes a program of a tree. */
    private static final class Coder {
        private static final int YES = -2;
        private static final int NO = -3;
        private static final int ACCEPTED = 262144;
        // Twenty brackets, at each of which a sum, a product and a unit may be within one another.
        private static final int MOST_LEVELS = 80;

        private final Tree tree;
        // Where the code of a part begins; jumps lead to parts until all of these are known.
        private final int[] begins;
        private final int[] yesOf;
        private final int[] noOf;
        private final int[] wordOf;
        private Program program;
        private boolean impossible;

        Coder(Tree tree, Program program) {
            this.tree = tree;
            this.program = program;
            begins = new int[Tree.MOST];
            yesOf = new int[Tree.MOST];
            noOf = new int[Tree.MOST];
            wordOf = new int[Tree.MOST];
            impossible = false;
        }

        /** Whether there can be such a program. */
        boolean translate(int root, Program empty) {
            program = empty;
            impossible = false;
            answer(root, YES, NO, 0);
            emit(Program.RET_NUMBER, ACCEPTED);
            emit(Program.RET_NUMBER, 0);
            resolveAll();
            return !impossible;
        }

        private void emit(int code, int k) {
            if (!program.add(code, 0, 0, k)) {
                impossible = true;
            }
        }

        private static int of(int[] row, int part) {
            return part >= 0 && part < row.length ? row[part] : NONE;
        }

        private static void set(int[] row, int part, int value) {
            if (part >= 0 && part < row.length) {
                row[part] = value;
            }
        }

        /**
         * Code that goes to yes or to no. Long chains hang to the left, so that way is gone down and
         * up again in loops, and only right parts are gone into.
         */
        private void answer(int part, int yes, int no, int level) {
            if (level > MOST_LEVELS || impossible) {
                impossible = true;
                return;
            }
            set(begins, part, program.size());
            int first = part;
            int toYes = yes;
            int toNo = no;
            for (int n = 0; n < Tree.MOST && tree.kind(first) > Tree.TEST; n++) {
                set(yesOf, first, toYes);
                set(noOf, first, toNo);
                if (tree.kind(first) == Tree.AND) {
                    toYes = tree.right(first);
                } else if (tree.kind(first) == Tree.OR) {
                    toNo = tree.right(first);
                } else {
                    int turned = toYes;
                    toYes = toNo;
                    toNo = turned;
                }
                first = tree.left(first);
            }
            test(first, toYes, toNo, level);
            for (int n = 0; n < Tree.MOST && first != part; n++) {
                first = tree.above(first);
                if (tree.kind(first) != Tree.NOT) {
                    answer(tree.right(first), of(yesOf, first), of(noOf, first), level + 1);
                }
            }
        }

        private void test(int part, int yes, int no, int level) {
            int first = tree.left(part);
            int second = tree.right(part);
            int jump = tree.value(part) & ~Parser.TURNED;
            int k = 0;
            if (tree.kind(second) == Tree.NUMBER) {
                sum(first, 0, level);
                k = tree.value(second);
            } else {
                sum(second, 0, level);
                emit(Program.ST, 0);
                sum(first, 1, level);
                emit(Program.LDX_WORD, 0);
                jump += Program.WITH_X;
            }
            boolean turned = (tree.value(part) & Parser.TURNED) != 0;
            if (!program.add(jump, turned ? no : yes, turned ? yes : no, k)) {
                impossible = true;
            }
        }

        /** Code that leaves the number in A; only the words from that of the depth on are used. */
        private void sum(int part, int depth, int level) {
            if (level > MOST_LEVELS || impossible) {
                impossible = true;
                return;
            }
            int first = part;
            int word = depth;
            for (int n = 0; n < Tree.MOST && tree.kind(first) == Tree.OPERATION; n++) {
                if (!isDirect(first)) {
                    sum(tree.right(first), word, level + 1);
                    store(word);
                    set(wordOf, first, word);
                    word++;
                }
                first = tree.left(first);
            }
            unit(first, word, level);
            for (int n = 0; n < Tree.MOST && first != part; n++) {
                first = tree.above(first);
                if (isDirect(first)) {
                    emit(tree.value(first), tree.value(tree.right(first)));
                } else {
                    emit(Program.LDX_WORD, of(wordOf, first));
                    emit(tree.value(first) + Program.WITH_X, 0);
                }
            }
        }

        private void store(int word) {
            if (word >= Program.WORDS) {
                impossible = true;
            }
            emit(Program.ST, word);
        }

        /** Whether the right part is a number that may stand in the operation itself. */
        private boolean isDirect(int part) {
            int right = tree.right(part);
            return tree.kind(right) == Tree.NUMBER
                    && Judge.mayStand(tree.value(part), Program.unsigned(tree.value(right)));
        }

        private void unit(int part, int depth, int level) {
            int kind = tree.kind(part);
            if (kind == Tree.NUMBER) {
                emit(Program.LD_NUMBER, tree.value(part));
                return;
            }
            if (kind == Tree.LENGTH) {
                emit(Program.LD_LEN, 0);
                return;
            }
            int place = tree.left(part);
            int width = widthOf(tree.value(part));
            if (tree.kind(place) == Tree.NUMBER) {
                emit(0x20 + width, tree.value(place));
            } else {
                sum(place, depth, level + 1);
                emit(Program.TAX, 0);
                emit(0x40 + width, 0);
            }
        }

        private static int widthOf(int bytes) {
            if (bytes == 1) {
                return 0x10;
            }
            return bytes == 2 ? 0x08 : 0x00;
        }

        private void resolveAll() {
            for (int i = 0; i < program.size() && !impossible; i++) {
                if (Program.isBranch(program.code(i))) {
                    int yes = placeOf(program.jt(i)) - i - 1;
                    int no = placeOf(program.jf(i)) - i - 1;
                    impossible = Math.max(yes, no) > Program.FARTHEST;
                    program.set(i, program.code(i), yes, no, program.k(i));
                }
            }
        }

        private int placeOf(int label) {
            if (label == YES) {
                return program.size() - 2;
            }
            return label == NO ? program.size() - 1 : of(begins, label);
        }
    }
}
