import java.util.Arrays;

/**
 * A solver for scripts of logic: Booleans, bit-vectors, binary floating point, and sorts and
 * functions that are left open. README.md tells how the parts below work together.
 */
public final class ScriptSolver {
    /** What the script's words mean: one number for each word, and for the TERMS without a word. */
    private static final int BOOL = 0;
    private static final int BIT_VEC = 1;
    private static final int FLOATING_POINT = 2;
    private static final int FLOAT16 = 3;
    private static final int ROUNDING_MODE = 4;
    private static final int TRUE = 5;
    private static final int FALSE = 6;
    private static final int RNE = 7;
    private static final int RTZ = 11;
    private static final int PLUS_OO = 12;
    private static final int MINUS_OO = 13;
    private static final int PLUS_ZERO = 14;
    private static final int MINUS_ZERO = 15;
    private static final int NAN = 16;
    private static final int LET = 17;
    private static final int BANG = 18;
    private static final int UNDERSCORE = 19;
    private static final int NOT = 20;
    private static final int AND = 21;
    private static final int OR = 22;
    private static final int XOR = 23;
    private static final int IMPLIES = 24;
    private static final int EQUAL = 25;
    private static final int DISTINCT = 26;
    private static final int ITE = 27;
    private static final int CONCAT = 28;
    private static final int EXTRACT = 29;
    private static final int ZERO_EXTEND = 30;
    private static final int SIGN_EXTEND = 31;
    private static final int REPEAT = 32;
    private static final int ROTATE_LEFT = 33;
    private static final int ROTATE_RIGHT = 34;
    private static final int BVNOT = 35;
    private static final int BVNEG = 36;
    private static final int BVAND = 37;
    private static final int BVOR = 38;
    private static final int BVXOR = 39;
    private static final int BVADD = 40;
    private static final int BVMUL = 41;
    private static final int BVNAND = 42;
    private static final int BVNOR = 43;
    private static final int BVXNOR = 44;
    private static final int BVSUB = 45;
    private static final int BVUDIV = 46;
    private static final int BVUREM = 47;
    private static final int BVSDIV = 48;
    private static final int BVSREM = 49;
    private static final int BVSMOD = 50;
    private static final int BVSHL = 51;
    private static final int BVLSHR = 52;
    private static final int BVASHR = 53;
    private static final int BVCOMP = 54;
    private static final int BVULT = 55;
    private static final int BVULE = 56;
    private static final int BVUGT = 57;
    private static final int BVUGE = 58;
    private static final int BVSLT = 59;
    private static final int BVSLE = 60;
    private static final int BVSGT = 61;
    private static final int BVSGE = 62;
    private static final int FP = 63;
    private static final int FP_ABS = 64;
    private static final int FP_NEG = 65;
    private static final int FP_ADD = 66;
    private static final int FP_SUB = 67;
    private static final int FP_MUL = 68;
    private static final int FP_DIV = 69;
    private static final int FP_SQRT = 70;
    private static final int FP_RTI = 71;
    private static final int FP_MIN = 72;
    private static final int FP_MAX = 73;
    private static final int FP_LEQ = 74;
    private static final int FP_LT = 75;
    private static final int FP_GEQ = 76;
    private static final int FP_GT = 77;
    private static final int FP_EQ = 78;
    private static final int FP_IS_NORMAL = 79;
    private static final int FP_IS_SUBNORMAL = 80;
    private static final int FP_IS_ZERO = 81;
    private static final int FP_IS_INFINITE = 82;
    private static final int FP_IS_NAN = 83;
    private static final int FP_IS_NEGATIVE = 84;
    private static final int FP_IS_POSITIVE = 85;
    private static final int TO_FP = 86;
    private static final int TO_FP_UNSIGNED = 87;
    private static final int TO_UBV = 88;
    private static final int TO_SBV = 89;
    private static final int SET_LOGIC = 90;
    private static final int SET_OPTION = 91;
    private static final int SET_INFO = 92;
    private static final int ECHO = 93;
    private static final int RESET = 94;
    private static final int DECLARE_SORT = 95;
    private static final int DECLARE_CONST = 96;
    private static final int DECLARE_FUN = 97;
    private static final int DEFINE_FUN = 98;
    private static final int PUSH = 99;
    private static final int POP = 100;
    private static final int ASSERT = 101;
    private static final int CHECK_SAT = 102;
    private static final int CHECK_SAT_ASSUMING = 103;
    private static final int GET_VALUE = 104;
    private static final int GET_UNSAT_CORE = 105;
    private static final int LITERAL = 106;
    private static final int FUNCTION = 107;
    private static final int PARAMETER = 108;

    /** The words in the order of the numbers above. */
    private static final String SORT_WORDS = "Bool BitVec FloatingPoint Float16 RoundingMode";
    private static final String TERM_WORDS = "true false RNE RNA RTP RTN RTZ +oo -oo +zero -zero NaN let ! _";
    private static final String CORE_WORDS = "not and or xor => = distinct ite";
    private static final String SHAPE_WORDS = "concat extract zero_extend sign_extend repeat rotate_left rotate_right";
    private static final String SUM_WORDS = "bvnot bvneg bvand bvor bvxor bvadd bvmul bvnand bvnor bvxnor bvsub";
    private static final String RATIO_WORDS = "bvudiv bvurem bvsdiv bvsrem bvsmod bvshl bvlshr bvashr bvcomp";
    private static final String ORDER_WORDS = "bvult bvule bvugt bvuge bvslt bvsle bvsgt bvsge";
    private static final String FLOAT_WORDS = "fp fp.abs fp.neg fp.add fp.sub fp.mul fp.div fp.sqrt fp.roundToIntegral fp.min fp.max";
    private static final String TEST_WORDS = "fp.leq fp.lt fp.geq fp.gt fp.eq fp.isNormal fp.isSubnormal fp.isZero fp.isInfinite";
    private static final String SIGN_WORDS = "fp.isNaN fp.isNegative fp.isPositive to_fp to_fp_unsigned fp.to_ubv fp.to_sbv";
    private static final String QUIET_WORDS = "set-logic set-option set-info echo reset declare-sort declare-const declare-fun";
    private static final String COMMAND_WORDS = "define-fun push pop assert check-sat check-sat-assuming get-value get-unsat-core";

    /** What a COMMAND, or the reading of a part of it, answers when it is wrong. */
    private static final int DONE = 0;
    private static final int NO_COMMAND = -1;
    private static final int NO_SORT = -2;
    private static final int NO_NAME = -3;
    private static final int FULL = -4;
    private static final int NO_LEVEL = -5;
    private static final int NO_MODEL = -6;
    private static final int NO_VALUE = -7;
    private static final int NO_CORE = -8;

    /** SORTS are numbers, too: these two, then bit-vectors, floating point, and open ones. */
    private static final int BOOL_SORT = 1;
    private static final int MODE_SORT = 2;
    private static final int BITS_SORT = 256;
    private static final int FLOAT_SORT = 512;
    private static final int OPEN_SORT = 1024;

    private final Tape tape;
    private final Session session;

    public ScriptSolver() {
        tape = new Tape();
        session = new Session(tape);
    }

    public int feed(int a, int b, int c, int d, int e) throws IndexOutOfBoundsException {
        if (tape.length > Tape.LIMIT - 20) {
            throw new IndexOutOfBoundsException("the tape would be longer than 65536 bytes");
        }
        tape.append(a);
        tape.append(b);
        tape.append(c);
        tape.append(d);
        tape.append(e);
        return tape.length;
    }

    public int end(int n) throws IllegalArgumentException {
        if (n < 0 || n > tape.length) {
            throw new IllegalArgumentException("the tape is not that long");
        }
        tape.length = n;
        return n;
    }

    public int run() {
        tape.resultLength = 0;
        int done = 0;
        int found = tape.take();
        for (int i = 0; i <= Tape.LIMIT && found == Tape.WHOLE; i++) {
            int command = session.open();
            int result;
            switch (command) {
                case CHECK_SAT:
                case CHECK_SAT_ASSUMING:
                    result = session.check(command);
                    break;
                case GET_VALUE:
                    result = session.ask();
                    if (result >= 0) {
                        session.fixModel();
                        session.printValues();
                    }
                    break;
                case GET_UNSAT_CORE:
                    result = session.getCore();
                    break;
                case ASSERT:
                    result = session.claim();
                    break;
                case DEFINE_FUN:
                    result = session.define();
                    break;
                default:
                    result = session.simple(command);
                    break;
            }
            session.close(result);
            done++;
            found = tape.take();
        }
        if (found == Tape.NONE) {
            tape.printError("syntax");
            tape.clear();
            done++;
        }
        tape.drop();
        return done;
    }

    public long word(int i) throws IndexOutOfBoundsException {
        if (i < 0 || i >= tape.resultLength) {
            throw new IndexOutOfBoundsException("no byte of the result");
        }
        long answer = 0;
        for (int k = 0; k < 8; k++) {
            int next = i + k < tape.resultLength ? tape.result[i + k] & 255 : 0;
            answer = answer << 8 | next;
        }
        return answer;
    }

    public int count(int what) throws IllegalArgumentException {
        switch (what) {
            case 0:
                return tape.length;
            case 1:
                return tape.resultLength;
            case 2:
                return session.level;
            case 3:
                return session.names.count;
            case 4:
                return session.claims;
            case 5:
                return session.terms.weight;
            case 6:
                return session.mode;
            case 7:
                return session.sat.clauses.faults;
            case 8:
                return session.falseModels;
            case 9:
                return session.givenUp;
            default:
                throw new IllegalArgumentException("nothing is counted under that number");
        }
    }

    private static int[] roomFor(int[] row, int size) {
        if (size <= row.length) {
            return row;
        }
        return Arrays.copyOf(row, Math.max(size, 2 * row.length));
    }

    private static byte[] roomFor(byte[] row, int size) {
        if (size <= row.length) {
            return row;
        }
        return Arrays.copyOf(row, Math.max(size, 2 * row.length));
    }

    private static int hashOf(byte[] bytes, int from, int to) {
        int sum = 17;
        for (int i = from; i < to; i++) {
            sum = sum * 31 + bytes[i];
        }
        return sum ^ sum >>> 15;
    }

    private static boolean sameBytes(byte[] a, int from, int to, byte[] b, int start) {
        for (int i = from; i < to; i++) {
            if (a[i] != b[start + i - from]) {
                return false;
            }
        }
        return true;
    }

    private static boolean isBits(int sort) {
        return sort > BITS_SORT && sort < FLOAT_SORT;
    }

    private static boolean isFloat(int sort) {
        return sort >= FLOAT_SORT && sort < OPEN_SORT;
    }

    private static boolean isOpen(int sort) {
        return sort >= OPEN_SORT;
    }

    private static int sortOfBits(int width) {
        return width >= 1 && width <= 64 ? BITS_SORT + width : NO_SORT;
    }

    private static int sortOfFloat(int e, int s) {
        return e >= 2 && e <= 5 && s >= 2 && s <= 11 ? FLOAT_SORT + e * 16 + s : NO_SORT;
    }

    private static int exponentOf(int sort) {
        return sort - FLOAT_SORT >> 4;
    }

    private static int significandOf(int sort) {
        return sort - FLOAT_SORT & 15;
    }

    private static int widthOf(int sort) {
        if (sort >= OPEN_SORT) {
            return 7;
        }
        if (sort >= FLOAT_SORT) {
            return (sort - FLOAT_SORT >> 4) + (sort - FLOAT_SORT & 15);
        }
        if (sort >= BITS_SORT) {
            return sort - BITS_SORT;
        }
        return sort == MODE_SORT ? 3 : 1;
    }

    /** THE TAPE, the TOKENS of the EXPRESSION that was taken from it last, and THE RESULT. */
    private static final class Tape {
        static final int LIMIT = 65536;
        static final int RESULT_LIMIT = 16384;
        static final int DEEPEST = 100;
        static final int SYMBOL = 0;
        static final int NUMERAL = 1;
        static final int KEYWORD = 2;
        static final int LITERAL = 3;
        static final int STRING = 4;
        static final int OPEN = 5;
        static final int CLOSE = 6;
        static final int WHOLE = 1;
        static final int PART = -1;
        static final int NONE = -2;
        private static final int SLOTS = 512;
        private static final int TEXT = 1200;
        /** The bytes beside letters and digits that SIGNS are made of. */
        static final String MARKS = "~!@$%^&*_-+=<>.?/";

        byte[] bytes = new byte[1024];
        int length;
        byte[] result = new byte[512];
        int resultLength;
        int tokens;
        int[] kind = new int[256];
        int[] from = new int[256];
        int[] to = new int[256];
        /** For a ( the index of its ). */
        int[] mate = new int[256];
        /** For a SYMBOL the number of the word that it is, or -1. */
        int[] word = new int[256];
        private final int[] open = new int[DEEPEST];
        private int at;
        private int found;
        private final byte[] text = new byte[TEXT];
        private final int[] textFrom = new int[GET_UNSAT_CORE + 2];
        private final int[] slot = new int[SLOTS];
        private int words;

        Tape() {
            Arrays.fill(slot, -1);
            addWords(SORT_WORDS);
            addWords(TERM_WORDS);
            addWords(CORE_WORDS);
            addWords(SHAPE_WORDS);
            addWords(SUM_WORDS);
            addWords(RATIO_WORDS);
            addWords(ORDER_WORDS);
            addWords(FLOAT_WORDS);
            addWords(TEST_WORDS);
            addWords(SIGN_WORDS);
            addWords(QUIET_WORDS);
            addWords(COMMAND_WORDS);
        }

        private void addWords(String row) {
            int top = textFrom[words];
            for (int i = 0; i <= row.length(); i++) {
                if (i < row.length() && row.charAt(i) != ' ') {
                    text[top] = (byte) row.charAt(i);
                    top++;
                } else {
                    addWord(top);
                }
            }
        }

        private void addWord(int stop) {
            int h = hashOf(text, textFrom[words], stop) & SLOTS - 1;
            for (int i = 0; i < SLOTS && slot[h] >= 0; i++) {
                h = h + 1 & SLOTS - 1;
            }
            slot[h] = words;
            words++;
            textFrom[words] = stop;
        }

        /** The number of the word with these bytes, or -1. */
        private int findWord(int start, int stop) {
            int h = hashOf(bytes, start, stop) & SLOTS - 1;
            for (int i = 0; i < SLOTS && slot[h] >= 0; i++) {
                int w = slot[h];
                if (textFrom[w + 1] - textFrom[w] == stop - start && sameBytes(bytes, start, stop, text, textFrom[w])) {
                    return w;
                }
                h = h + 1 & SLOTS - 1;
            }
            return -1;
        }

        void append(int four) {
            bytes = roomFor(bytes, length + 4);
            bytes[length] = (byte) (four >>> 24);
            bytes[length + 1] = (byte) (four >>> 16);
            bytes[length + 2] = (byte) (four >>> 8);
            bytes[length + 3] = (byte) four;
            length += 4;
        }

        void clear() {
            length = 0;
            at = 0;
        }

        /** What was taken leaves THE TAPE. */
        void drop() {
            if (at > 0 && at <= length) {
                System.arraycopy(bytes, at, bytes, 0, length - at);
                length -= at;
            }
            at = 0;
        }

        /** Looks for the next EXPRESSION: WHOLE, PART if more bytes are needed, NONE if it is wrong. */
        int take() {
            tokens = 0;
            int depth = 0;
            int i = at;
            while (i < length) {
                int c = bytes[i] & 255;
                if (isBlank(c)) {
                    i++;
                    continue;
                }
                int stop = c == ';' ? commentEnd(i) : tokenEnd(i, c);
                if (stop < 0) {
                    return stop;
                }
                if (c != ';') {
                    addToken(i, stop);
                    if (found == OPEN) {
                        if (depth == DEEPEST) {
                            return NONE;
                        }
                        open[depth] = tokens - 1;
                        depth++;
                    } else if (found == CLOSE) {
                        if (depth == 0) {
                            return NONE;
                        }
                        depth--;
                        mate[open[depth]] = tokens - 1;
                    }
                    if (depth == 0) {
                        at = stop;
                        return WHOLE;
                    }
                }
                i = stop;
            }
            return PART;
        }

        private void addToken(int start, int stop) {
            kind = roomFor(kind, tokens + 1);
            from = roomFor(from, tokens + 1);
            to = roomFor(to, tokens + 1);
            mate = roomFor(mate, tokens + 1);
            word = roomFor(word, tokens + 1);
            kind[tokens] = found;
            from[tokens] = start;
            to[tokens] = stop;
            mate[tokens] = tokens;
            word[tokens] = found == SYMBOL ? findWord(nameFrom(tokens), nameTo(tokens)) : -1;
            tokens++;
        }

        private static boolean isBlank(int c) {
            return c == 32 || c == 10 || c == 13 || c == 9;
        }

        private static boolean isDigit(int c) {
            return c >= '0' && c <= '9';
        }

        private static boolean isSign(int c) {
            return c >= 'a' && c <= 'z' || c >= 'A' && c <= 'Z' || isDigit(c) || MARKS.indexOf((char) c) >= 0;
        }

        /** The byte that ends a comment; it is not whole if it reaches the end. */
        private int commentEnd(int start) {
            for (int i = start; i < length; i++) {
                if (bytes[i] == 10 || bytes[i] == 13) {
                    return i;
                }
            }
            return PART;
        }

        /** Where the TOKEN that begins at start ends; its kind goes to found. */
        private int tokenEnd(int start, int c) {
            if (c == '(' || c == ')') {
                found = c == '(' ? OPEN : CLOSE;
                return start + 1;
            }
            if (c == '|') {
                return quotedEnd(start);
            }
            if (c == '"') {
                return stringEnd(start);
            }
            if (c == '#') {
                return literalEnd(start);
            }
            if (c != ':' && !isSign(c)) {
                return NONE;
            }
            int stop = start + 1;
            while (stop < length && isSign(bytes[stop] & 255)) {
                stop++;
            }
            if (stop == length) {
                return PART;
            }
            if (c == ':') {
                found = KEYWORD;
                return stop == start + 1 ? NONE : stop;
            }
            if (!isDigit(c)) {
                found = SYMBOL;
                return stop;
            }
            found = NUMERAL;
            return isNumeral(start, stop) ? stop : NONE;
        }

        boolean isNumeral(int start, int stop) {
            for (int i = start; i < stop; i++) {
                if (!isDigit(bytes[i])) {
                    return false;
                }
            }
            return stop == start + 1 || stop > start && bytes[start] != '0';
        }

        private int quotedEnd(int start) {
            boolean slash = false;
            int stop = start + 1;
            while (stop < length && bytes[stop] != '|') {
                slash |= bytes[stop] == 92;
                stop++;
            }
            found = SYMBOL;
            if (stop + 1 >= length) {
                return PART;
            }
            return slash ? NONE : stop + 1;
        }

        private int stringEnd(int start) {
            int stop = start + 1;
            while (stop + 1 < length) {
                if (bytes[stop] != '"') {
                    stop++;
                } else if (bytes[stop + 1] == '"') {
                    stop += 2;
                } else {
                    found = STRING;
                    return stop + 1;
                }
            }
            return PART;
        }

        private int literalEnd(int start) {
            if (start + 1 >= length) {
                return PART;
            }
            int base = bytes[start + 1];
            if (base != 'b' && base != 'x') {
                return NONE;
            }
            int stop = start + 2;
            while (stop < length && digit(bytes[stop]) < (base == 'b' ? 2 : 16)) {
                stop++;
            }
            found = LITERAL;
            if (stop == length) {
                return PART;
            }
            return stop == start + 2 ? NONE : stop;
        }

        /** The digit that a byte stands for, 16 if it stands for none. */
        static int digit(int c) {
            if (c >= '0' && c <= '9') {
                return c - '0';
            }
            if (c >= 'a' && c <= 'f') {
                return c - 'a' + 10;
            }
            return c >= 'A' && c <= 'F' ? c - 'A' + 10 : 16;
        }

        /** The token behind the EXPRESSION that begins with this one. */
        int after(int token) {
            return kind[token] == OPEN ? mate[token] + 1 : token + 1;
        }

        boolean isBarred(int token) {
            return bytes[from[token]] == '|';
        }

        /** Where a SYMBOL's own bytes begin and end, without |. */
        int nameFrom(int token) {
            return bytes[from[token]] == '|' ? from[token] + 1 : from[token];
        }

        int nameTo(int token) {
            return bytes[from[token]] == '|' ? to[token] - 1 : to[token];
        }

        boolean sameSymbol(int a, int b) {
            int size = nameTo(a) - nameFrom(a);
            return size == nameTo(b) - nameFrom(b) && sameBytes(bytes, nameFrom(a), nameTo(a), bytes, nameFrom(b));
        }

        /** A NUMERAL's number, or one more than the limit if it is greater than that. */
        int numeral(int token, int limit) {
            int sum = 0;
            for (int i = from[token]; i < to[token]; i++) {
                sum = sum * 10 + digit(bytes[i]);
                if (sum > limit) {
                    return limit + 1;
                }
            }
            return sum;
        }

        void put(int c) {
            if (resultLength >= RESULT_LIMIT) {
                return;
            }
            result = roomFor(result, resultLength + 1);
            result[resultLength] = (byte) c;
            resultLength++;
        }

        void print(String s) {
            for (int i = 0; i < s.length(); i++) {
                put(s.charAt(i));
            }
        }

        void printBytes(byte[] source, int start, int stop) {
            for (int i = start; i < stop; i++) {
                put(source[i]);
            }
        }

        void printLine(String s) {
            print(s);
            put(10);
        }

        void printError(String what) {
            print("(error \"");
            print(what);
            printLine("\")");
        }

        /** An EXPRESSION as it is written, with one blank where its TOKENS need or had some. */
        void printExpression(int token) {
            int stop = after(token);
            for (int t = token; t < stop; t++) {
                if (t > token && kind[t] != CLOSE && kind[t - 1] != OPEN) {
                    put(' ');
                }
                printBytes(bytes, from[t], to[t]);
            }
        }
    }

    /** The NAMES, the latest last; those of a LEVEL that is gone are cut off. */
    private static final class Names {
        static final int LIMIT = 1000;
        static final int SORT = 0;
        static final int DECLARED = 1;
        static final int DEFINED = 2;
        private static final int HEADS = 256;
        private static final int TEXT_LIMIT = 131072;

        int count;
        final int[] kind = new int[LIMIT];
        final int[] level = new int[LIMIT];
        /** The SORT that a function gives, or that the NAME is. */
        final int[] sort = new int[LIMIT];
        /** Tells a declaration from every other one since the latest reset. */
        final int[] mark = new int[LIMIT];
        final int[] arity = new int[LIMIT];
        /** Of a declared function: where its parameters' SORTS begin; of a defined one: its first parameter's TERM. */
        final int[] first = new int[LIMIT];
        /** The TERM that a definition stands for. */
        final int[] body = new int[LIMIT];
        /** The model in which a constant has been given its value. */
        final int[] settled = new int[LIMIT];
        int[] sorts = new int[64];
        byte[] text = new byte[1024];
        private final int[] textTo = new int[LIMIT + 1];
        private final int[] next = new int[LIMIT];
        private final int[] head = new int[HEADS];
        private int marks;

        Names() {
            Arrays.fill(head, -1);
        }

        void clear() {
            cut(-1);
            marks = 0;
        }

        int newMark() {
            marks++;
            return marks;
        }

        int textFrom(int name) {
            return textTo[name];
        }

        int textTo(int name) {
            return textTo[name + 1];
        }

        private int bucket(byte[] bytes, int from, int to) {
            return hashOf(bytes, from, to) & HEADS - 1;
        }

        int find(Tape tape, int token) {
            int from = tape.nameFrom(token);
            int to = tape.nameTo(token);
            for (int n = head[bucket(tape.bytes, from, to)]; n >= 0; n = next[n]) {
                if (textTo(n) - textFrom(n) == to - from && sameBytes(tape.bytes, from, to, text, textFrom(n))) {
                    return n;
                }
            }
            return -1;
        }

        /** Where the SORTS of the next function's parameters may be written. */
        int sortsTop() {
            int top = 0;
            for (int n = count - 1; n >= 0 && top == 0; n--) {
                if (kind[n] == DECLARED && arity[n] > 0) {
                    top = first[n] + arity[n];
                }
            }
            return top;
        }

        boolean isFull(Tape tape, int token) {
            return count >= LIMIT || textTo[count] + tape.nameTo(token) - tape.nameFrom(token) > TEXT_LIMIT;
        }

        /** A new NAME, for which isFull was asked; what it is beyond its kind and SORT is set by the caller. */
        int add(Tape tape, int token, int newKind, int newLevel, int newSort) {
            int from = tape.nameFrom(token);
            int to = tape.nameTo(token);
            int start = textTo[count];
            text = roomFor(text, start + to - from);
            System.arraycopy(tape.bytes, from, text, start, to - from);
            int h = bucket(tape.bytes, from, to);
            kind[count] = newKind;
            level[count] = newLevel;
            sort[count] = newSort;
            mark[count] = newMark();
            arity[count] = 0;
            first[count] = 0;
            body[count] = -1;
            settled[count] = 0;
            textTo[count + 1] = start + to - from;
            next[count] = head[h];
            head[h] = count;
            count++;
            return count - 1;
        }

        /** NAMES of LEVELS above this one are gone. */
        void cut(int above) {
            for (int n = count - 1; n >= 0 && level[n] > above; n--) {
                head[bucket(text, textFrom(n), textTo(n))] = next[n];
                count = n;
            }
        }

        boolean isFunction(int name) {
            return kind[name] != SORT && arity[name] > 0;
        }

        boolean isConstant(int name) {
            return kind[name] != SORT && arity[name] == 0;
        }
    }

    /** All different TERMS since the latest reset; the parts of one have lesser numbers than itself. */
    private static final class Terms {
        static final int WEIGHT_LIMIT = 4400;
        static final int OPEN_LIMIT = 100;
        /** A TERM weighs 2 at least, and never less than it has parts. */
        private static final int LIMIT = WEIGHT_LIMIT / 2 + 1;
        private static final int HEADS = 1024;

        int count;
        int weight;
        final int[] op = new int[LIMIT];
        final int[] sort = new int[LIMIT];
        /** The two NUMERALS of an OPERATION; of a function, constant or parameter its mark. */
        final int[] i = new int[LIMIT];
        final int[] j = new int[LIMIT];
        final long[] value = new long[LIMIT];
        final int[] first = new int[LIMIT];
        final int[] size = new int[LIMIT];
        final int[] part = new int[2 * WEIGHT_LIMIT + 2];
        /** The word that the encoder made of a TERM, -1 if none. */
        final int[] word = new int[LIMIT];
        private final int[] width = new int[LIMIT];
        private final int[] next = new int[LIMIT];
        private final int[] head = new int[HEADS];
        private final int[] image = new int[LIMIT];
        private int opens;
        private int keptCount;
        private int keptWeight;
        private int keptOpens;

        Terms() {
            Arrays.fill(head, -1);
        }

        void clear() {
            keptCount = 0;
            keptWeight = 0;
            keptOpens = 0;
            restore();
        }

        /** Remembers what is there, so that a COMMAND with an ERROR can be undone. */
        void keep() {
            keptCount = count;
            keptWeight = weight;
            keptOpens = opens;
        }

        void restore() {
            for (int t = count - 1; t >= keptCount; t--) {
                head[bucket(t)] = next[t];
            }
            count = keptCount;
            weight = keptWeight;
            opens = keptOpens;
        }

        int part(int t, int k) {
            return part[first[t] + k];
        }

        private int bucket(int t) {
            int sum = op[t] * 31 + sort[t];
            sum = (sum * 31 + i[t]) * 31 + j[t];
            sum = sum * 31 + (int) (value[t] ^ value[t] >>> 32);
            for (int k = 0; k < size[t]; k++) {
                sum = sum * 31 + part[first[t] + k];
            }
            return (sum ^ sum >>> 11 ^ sum >>> 22) & HEADS - 1;
        }

        private boolean same(int a, int b) {
            if (op[a] != op[b] || sort[a] != sort[b] || i[a] != i[b] || j[a] != j[b]) {
                return false;
            }
            if (value[a] != value[b] || size[a] != size[b]) {
                return false;
            }
            for (int k = 0; k < size[a]; k++) {
                if (part[first[a] + k] != part[first[b] + k]) {
                    return false;
                }
            }
            return true;
        }

        /** Writes a TERM behind the others; it is none before settle. */
        private void draft(int newOp, int newSort, int newI, int newJ, long newValue) {
            op[count] = newOp;
            sort[count] = newSort;
            width[count] = widthOf(newSort);
            i[count] = newI;
            j[count] = newJ;
            value[count] = newValue;
            first[count] = count == 0 ? 0 : first[count - 1] + size[count - 1];
            size[count] = 0;
            word[count] = -1;
        }

        /** A TERM without parts. */
        int leaf(int newOp, int newSort, int newI, int newJ, long newValue) {
            draft(newOp, newSort, newI, newJ, newValue);
            return settle();
        }

        /** The TERM of a declared constant, -1 if it has not been read. */
        int findConstant(int itsSort, int mark) {
            draft(FUNCTION, itsSort, mark, 0, 0);
            for (int t = head[bucket(count)]; t >= 0; t = next[t]) {
                if (same(t, count)) {
                    return t;
                }
            }
            return -1;
        }

        /** A TERM with parts, which are given in a row from base on. */
        int make(int newOp, int newSort, long numerals, int[] row, int base, int n) {
            if (n > WEIGHT_LIMIT) {
                return FULL;
            }
            draft(newOp, newSort, (int) (numerals >> 32), (int) numerals, 0);
            System.arraycopy(row, base, part, first[count], n);
            size[count] = n;
            return settle();
        }

        /** The draft's number, the old one if there is the same TERM already, or FULL. */
        private int settle() {
            int h = bucket(count);
            for (int t = head[h]; t >= 0; t = next[t]) {
                if (same(t, count)) {
                    return t;
                }
            }
            boolean isOpen = op[count] == FUNCTION && isOpen(sort[count]);
            boolean isRounding = op[count] >= FP_ADD && op[count] <= TO_SBV && size[count] >= 2;
            isRounding = isRounding && sort[part[first[count]]] == MODE_SORT;
            long more = isRounding ? roundingWeight(count) : op[count] == FUNCTION ? functionWeight(count) : weigh(count);
            if (weight + more > WEIGHT_LIMIT || isOpen && opens == OPEN_LIMIT) {
                return FULL;
            }
            weight += (int) more;
            opens += isOpen ? 1 : 0;
            next[count] = head[h];
            head[h] = count;
            count++;
            return count - 1;
        }

        private long weigh(int t) {
            int n = size[t];
            long parts = 0;
            for (int k = 0; k < n; k++) {
                parts += width[part[first[t] + k]];
            }
            long own = width[t];
            long w = n == 0 ? own : width[part[first[t]]];
            switch (op[t]) {
                case BVMUL:
                case BVUDIV:
                case BVUREM:
                case BVSDIV:
                case BVSREM:
                case BVSMOD:
                    return 1 + w * w * (n - 1);
                case BVSHL:
                case BVLSHR:
                case BVASHR:
                    return 1 + 8 * w;
                case DISTINCT:
                    return 1 + w * n * (n - 1) / 2;
                default:
                    return 1 + (n == 0 ? own : parts);
            }
        }

        /** Of a declared function: once, and once more for each TERM of it that there is already. */
        private long functionWeight(int t) {
            long bits = width[t];
            for (int k = 0; k < size[t]; k++) {
                bits += width[part[first[t] + k]];
            }
            int times = 1;
            for (int k = 0; k < t; k++) {
                times += op[k] == FUNCTION && i[k] == i[t] ? 1 : 0;
            }
            return 1 + bits * times;
        }

        /** Of OPERATIONS on floating point whose first part is a RoundingMode. */
        private long roundingWeight(int t) {
            int from = part[first[t] + 1];
            boolean isFrom = sort[from] >= FLOAT_SORT;
            boolean isTo = sort[t] >= FLOAT_SORT;
            long widest = Math.max(isFrom ? width[from] : 0, isTo ? width[t] : 0);
            long bits = (isFrom ? 0 : width[from]) + (isTo ? 0 : width[t]);
            return 1 + 4 * widest * widest + 8 * bits;
        }

        /** The TERM root with others, given in a row from base on, in place of the n parameters from low on. */
        int instance(int root, int low, int n, int[] row, int base) {
            if (root < low) {
                return root;
            }
            for (int t = low; t <= root; t++) {
                image[t] = t < low + n ? row[base + t - low] : -1;
            }
            if (root >= low + n) {
                image[root] = -2;
            }
            for (int t = root; t >= low + n; t--) {
                for (int k = 0; image[t] == -2 && k < size[t]; k++) {
                    if (part(t, k) >= low + n) {
                        image[part(t, k)] = -2;
                    }
                }
            }
            for (int t = low + n; t <= root; t++) {
                if (image[t] == -2) {
                    draft(op[t], sort[t], i[t], j[t], value[t]);
                    for (int k = 0; k < size[t]; k++) {
                        int old = part(t, k);
                        part[first[count] + k] = old < low ? old : image[old];
                    }
                    size[count] = size[t];
                    image[t] = settle();
                    if (image[t] < 0) {
                        return image[t];
                    }
                }
            }
            return image[root];
        }
    }

    /** Reads SORTS and TERMS from the tokens of the TAPE, without recursion: open lists are frames. */
    private static final class Reader {
        private static final int PARTS = 0;
        private static final int BINDINGS = 1;
        private static final int BODY = 2;
        private static final int OPENED = 1 << 30;

        private final Tape tape;
        private final Names names;
        private final Terms terms;
        private int[] values = new int[256];
        private int top;
        private final int[] frame = new int[Tape.DEEPEST + 1];
        private final int[] next = new int[Tape.DEEPEST + 1];
        private final int[] base = new int[Tape.DEEPEST + 1];
        private final int[] state = new int[Tape.DEEPEST + 1];
        private int depth;
        private int[] boundToken = new int[64];
        private int[] boundTerm = new int[64];
        private int bound;
        /** Of the application whose parts have been read: its NUMERALS, and where and how many its parts are. */
        private int numerals;
        private int start;
        private int n;

        Reader(Tape tape, Names names, Terms terms) {
            this.tape = tape;
            this.names = names;
            this.terms = terms;
        }

        void unbind() {
            bound = 0;
        }

        void bind(int token, int term) {
            boundToken = roomFor(boundToken, bound + 1);
            boundTerm = roomFor(boundTerm, bound + 1);
            boundToken[bound] = token;
            boundTerm[bound] = term;
            bound++;
        }

        /** Two of the last n that were bound are the same SYMBOL. */
        boolean hasTwins(int n) {
            for (int a = bound - n; a < bound; a++) {
                for (int b = bound - n; b < a; b++) {
                    if (tape.sameSymbol(boundToken[a], boundToken[b])) {
                        return true;
                    }
                }
            }
            return false;
        }

        /** A SYMBOL that may not become a NAME. */
        boolean isTaken(int token) {
            int word = tape.word[token];
            return word >= 0 && word < SET_LOGIC || names.find(tape, token) >= 0;
        }

        int sort(int token) {
            if (tape.kind[token] == Tape.OPEN) {
                return indexedSort(token);
            }
            if (tape.kind[token] != Tape.SYMBOL) {
                return NO_SORT;
            }
            switch (tape.word[token]) {
                case BOOL:
                    return BOOL_SORT;
                case FLOAT16:
                    return sortOfFloat(5, 11);
                case ROUNDING_MODE:
                    return MODE_SORT;
                default:
                    int name = names.find(tape, token);
                    return name >= 0 && names.kind[name] == Names.SORT ? names.sort[name] : NO_SORT;
            }
        }

        private int indexedSort(int token) {
            int stop = tape.mate[token];
            int word = indexedWord(token);
            if (word == BIT_VEC && stop == token + 4) {
                return sortOfBits(tape.numeral(token + 3, 64));
            }
            if (word == FLOATING_POINT && stop == token + 5) {
                return sortOfFloat(tape.numeral(token + 3, 64), tape.numeral(token + 4, 64));
            }
            return NO_SORT;
        }

        /** The word w of a list (_ w NUMERAL ..), -1 for another SYMBOL there, NO_SORT if the list is no such one. */
        private int indexedWord(int token) {
            int stop = tape.mate[token];
            if (stop < token + 4 || tape.kind[token + 2] != Tape.SYMBOL || tape.word[token + 1] != UNDERSCORE) {
                return NO_SORT;
            }
            for (int t = token + 3; t < stop; t++) {
                if (tape.kind[t] != Tape.NUMERAL) {
                    return NO_SORT;
                }
            }
            return tape.word[token + 2];
        }

        /** The TERM that begins with this token, or what is wrong with it. */
        int term(int token) {
            depth = 0;
            top = 0;
            int pending = token;
            for (int step = 0; step <= 4 * Tape.LIMIT; step++) {
                int result;
                if (pending >= 0) {
                    result = tape.kind[pending] == Tape.OPEN ? enter(pending) : atom(pending);
                    pending = -1;
                } else if (tape.kind[next[depth - 1]] == Tape.CLOSE) {
                    result = state[depth - 1] == PARTS ? apply(depth - 1) : leaveLet(depth - 1);
                } else {
                    int f = depth - 1;
                    pending = state[f] == BINDINGS ? next[f] + 2 : next[f];
                    next[f] = tape.after(next[f]);
                    result = OPENED;
                }
                if (result < 0) {
                    return result;
                }
                if (result != OPENED) {
                    push(result);
                    if (depth == 0) {
                        return result;
                    }
                }
            }
            return FULL;
        }

        private void push(int term) {
            values = roomFor(values, top + 1);
            values[top] = term;
            top++;
        }

        private int atom(int token) {
            if (tape.kind[token] == Tape.LITERAL) {
                return literal(token);
            }
            if (tape.kind[token] != Tape.SYMBOL) {
                return NO_SORT;
            }
            for (int b = bound - 1; b >= 0; b--) {
                if (tape.sameSymbol(boundToken[b], token)) {
                    return boundTerm[b];
                }
            }
            int name = names.find(tape, token);
            if (name >= 0) {
                return constant(name);
            }
            int word = tape.word[token];
            if (word == TRUE || word == FALSE) {
                return terms.leaf(word, BOOL_SORT, 0, 0, 0);
            }
            if (word >= RNE && word <= RTZ) {
                return terms.leaf(word, MODE_SORT, 0, 0, 0);
            }
            return NO_NAME;
        }

        private int constant(int name) {
            if (!names.isConstant(name)) {
                return NO_NAME;
            }
            if (names.kind[name] == Names.DEFINED) {
                return names.body[name];
            }
            return terms.leaf(FUNCTION, names.sort[name], names.mark[name], 0, 0);
        }

        private int literal(int token) {
            int shift = tape.bytes[tape.from[token] + 1] == 'b' ? 1 : 4;
            int digits = tape.to[token] - tape.from[token] - 2;
            if (digits * shift > 64) {
                return NO_SORT;
            }
            long value = 0;
            for (int k = tape.from[token] + 2; k < tape.to[token]; k++) {
                value = value << shift | Tape.digit(tape.bytes[k]);
            }
            return terms.leaf(LITERAL, sortOfBits(digits * shift), 0, 0, value);
        }

        /** A list begins: a frame is OPENED for it, or it is a TERM as it stands. */
        private int enter(int token) {
            int head = token + 1;
            int start = tape.after(head);
            if (tape.word[head] == UNDERSCORE) {
                return indexed(token);
            }
            if (tape.word[head] == LET) {
                if (!isLet(token)) {
                    return NO_SORT;
                }
                open(token, BINDINGS, head + 2);
                return OPENED;
            }
            boolean isHead = tape.kind[head] == Tape.SYMBOL && tape.word[head] != BANG;
            if (tape.kind[head] == Tape.OPEN) {
                isHead = indexedWord(head) >= -1;
                for (int t = head + 3; isHead && t < tape.mate[head]; t++) {
                    isHead = tape.numeral(t, 1000) <= 1000;
                }
            }
            if (!isHead || tape.kind[start] == Tape.CLOSE) {
                return NO_SORT;
            }
            open(token, PARTS, start);
            return OPENED;
        }

        private void open(int token, int newState, int start) {
            frame[depth] = token;
            state[depth] = newState;
            next[depth] = start;
            base[depth] = top;
            depth++;
        }

        /** The list is of the form (let ((SYMBOL TERM) ..) TERM). */
        private boolean isLet(int token) {
            int list = token + 2;
            int body = tape.after(list);
            if (tape.kind[list] != Tape.OPEN || tape.kind[list + 1] == Tape.CLOSE) {
                return false;
            }
            if (tape.kind[body] == Tape.CLOSE || tape.after(body) != tape.mate[token]) {
                return false;
            }
            for (int t = list + 1; t < tape.mate[list]; t = tape.after(t)) {
                if (!isPair(t)) {
                    return false;
                }
            }
            return true;
        }

        /** The EXPRESSION is of the form (SYMBOL EXPRESSION). */
        boolean isPair(int token) {
            if (tape.kind[token] != Tape.OPEN || tape.kind[token + 1] != Tape.SYMBOL) {
                return false;
            }
            return tape.kind[token + 2] != Tape.CLOSE && tape.after(token + 2) == tape.mate[token];
        }

        /** A TERM (_ ..). */
        private int indexed(int token) {
            int stop = tape.mate[token];
            int word = indexedWord(token);
            if (word >= PLUS_OO && word <= NAN && stop == token + 5) {
                int sort = sortOfFloat(tape.numeral(token + 3, 64), tape.numeral(token + 4, 64));
                return sort < 0 ? sort : terms.leaf(word, sort, 0, 0, 0);
            }
            if (word != -1 || stop != token + 4) {
                return NO_SORT;
            }
            int from = tape.nameFrom(token + 2);
            int to = tape.nameTo(token + 2);
            if (to < from + 3 || tape.bytes[from] != 'b' || tape.bytes[from + 1] != 'v' || !tape.isNumeral(from + 2, to)) {
                return NO_SORT;
            }
            int sort = sortOfBits(tape.numeral(token + 3, 64));
            if (sort < 0) {
                return sort;
            }
            long value = 0;
            for (int k = from + 2; k < to; k++) {
                value = value * 10 + Tape.digit(tape.bytes[k]);
            }
            int gap = 64 - widthOf(sort);
            return terms.leaf(LITERAL, sort, 0, 0, value << gap >>> gap);
        }

        /** A let has come to the end of its bindings, or to its own. */
        private int leaveLet(int f) {
            int list = frame[f] + 2;
            if (state[f] == BINDINGS) {
                int b = base[f];
                for (int t = list + 1; t < tape.mate[list]; t = tape.after(t)) {
                    bind(t + 1, values[b]);
                    b++;
                }
                state[f] = BODY;
                next[f] = tape.after(list);
                return hasTwins(top - base[f]) ? NO_NAME : OPENED;
            }
            depth--;
            int result = values[top - 1];
            bound -= top - 1 - base[f];
            top = base[f];
            return result;
        }

        /** ( f TERM ..), the parts of which have been read. */
        private int apply(int f) {
            int head = frame[f] + 1;
            int symbol = head;
            long ij = 0;
            numerals = 0;
            start = base[f];
            n = top - start;
            depth--;
            top = start;
            if (tape.kind[head] == Tape.OPEN) {
                symbol = head + 2;
                numerals = tape.mate[head] - head - 3;
                ij = (long) tape.numeral(head + 3, 1000) << 32;
                ij |= numerals > 1 ? tape.numeral(head + 4, 1000) : 0;
            }
            int name = names.find(tape, symbol);
            if (name >= 0 && names.isFunction(name)) {
                return call(name);
            }
            int op = tape.word[symbol];
            if (op < NOT || op > TO_SBV) {
                return NO_NAME;
            }
            int sort = sortOf(op, ij);
            return sort < 0 ? sort : terms.make(op, sort, ij, values, start, n);
        }

        private int call(int name) {
            if (numerals > 0 || n != names.arity[name]) {
                return NO_SORT;
            }
            boolean isDefined = names.kind[name] == Names.DEFINED;
            int first = names.first[name];
            for (int k = 0; k < n; k++) {
                int due = isDefined ? terms.sort[first + k] : names.sorts[first + k];
                if (terms.sort[values[start + k]] != due) {
                    return NO_SORT;
                }
            }
            if (isDefined) {
                return terms.instance(names.body[name], first, n, values, start);
            }
            return terms.make(FUNCTION, names.sort[name], (long) names.mark[name] << 32, values, start, n);
        }

        /** The SORT that an OPERATION gives with these NUMERALS and the parts that have been read, or NO_SORT. */
        private int sortOf(int op, long ij) {
            int i = (int) (ij >> 32);
            int j = (int) ij;
            if (op >= EXTRACT && op <= ROTATE_RIGHT) {
                return shapeSort(op, i, j);
            }
            if (op >= TO_FP) {
                return conversionSort(op, i, j);
            }
            if (numerals > 0) {
                return NO_SORT;
            }
            if (op < CONCAT) {
                return coreSort(op);
            }
            return op < FP ? bitsSort(op) : floatSort(op);
        }

        private int sortAt(int k) {
            return terms.sort[values[start + k]];
        }

        private boolean allSame(int low) {
            for (int k = low + 1; k < n; k++) {
                if (sortAt(k) != sortAt(low)) {
                    return false;
                }
            }
            return true;
        }

        private int coreSort(int op) {
            boolean fits;
            switch (op) {
                case NOT:
                    return n == 1 && sortAt(0) == BOOL_SORT ? BOOL_SORT : NO_SORT;
                case ITE:
                    fits = n == 3 && sortAt(0) == BOOL_SORT && sortAt(1) == sortAt(2);
                    return fits ? sortAt(1) : NO_SORT;
                case EQUAL:
                case DISTINCT:
                    return n >= 2 && allSame(0) ? BOOL_SORT : NO_SORT;
                default:
                    return n >= 2 && sortAt(0) == BOOL_SORT && allSame(0) ? BOOL_SORT : NO_SORT;
            }
        }

        private int shapeSort(int op, int i, int j) {
            if (n != 1 || !isBits(sortAt(0)) || numerals != (op == EXTRACT ? 2 : 1)) {
                return NO_SORT;
            }
            int w = widthOf(sortAt(0));
            switch (op) {
                case EXTRACT:
                    return i >= j && i < w ? sortOfBits(i - j + 1) : NO_SORT;
                case REPEAT:
                    return sortOfBits(w * i);
                case ROTATE_LEFT:
                case ROTATE_RIGHT:
                    return sortAt(0);
                default:
                    return sortOfBits(w + i);
            }
        }

        private int bitsSort(int op) {
            if (op == CONCAT) {
                return concatSort();
            }
            boolean fits = isBits(sortAt(0)) && allSame(0);
            if (op <= BVNEG) {
                fits &= n == 1;
            } else if (op <= BVMUL) {
                fits &= n >= 2;
            } else {
                fits &= n == 2;
            }
            if (!fits) {
                return NO_SORT;
            }
            if (op == BVCOMP) {
                return sortOfBits(1);
            }
            return op >= BVULT ? BOOL_SORT : sortAt(0);
        }

        private int concatSort() {
            int width = 0;
            for (int k = 0; k < n; k++) {
                if (!isBits(sortAt(k))) {
                    return NO_SORT;
                }
                width += widthOf(sortAt(k));
            }
            return n >= 2 ? sortOfBits(width) : NO_SORT;
        }

        private int floatSort(int op) {
            if (op == FP) {
                return tripleSort();
            }
            boolean isRounded = op >= FP_ADD && op <= FP_RTI;
            int low = isRounded ? 1 : 0;
            int parts = 1;
            if (op >= FP_MIN && op <= FP_EQ) {
                parts = 2;
            } else if (isRounded) {
                parts = op <= FP_DIV ? 3 : 2;
            }
            if (n != parts || isRounded && sortAt(0) != MODE_SORT) {
                return NO_SORT;
            }
            if (!isFloat(sortAt(low)) || !allSame(low)) {
                return NO_SORT;
            }
            return op >= FP_LEQ ? BOOL_SORT : sortAt(low);
        }

        private int tripleSort() {
            if (n != 3 || !isBits(sortAt(0)) || !isBits(sortAt(1)) || !isBits(sortAt(2))) {
                return NO_SORT;
            }
            return widthOf(sortAt(0)) == 1 ? sortOfFloat(widthOf(sortAt(1)), widthOf(sortAt(2)) + 1) : NO_SORT;
        }

        private int conversionSort(int op, int i, int j) {
            if (op >= TO_UBV) {
                boolean fits = numerals == 1 && n == 2 && sortAt(0) == MODE_SORT && isFloat(sortAt(1));
                return fits && i <= 32 ? sortOfBits(i) : NO_SORT;
            }
            if (numerals != 2) {
                return NO_SORT;
            }
            boolean fits;
            if (n == 1) {
                fits = op == TO_FP && isBits(sortAt(0)) && widthOf(sortAt(0)) == i + j;
            } else {
                fits = n == 2 && sortAt(0) == MODE_SORT && isConvertible(op, sortAt(1));
            }
            return fits ? sortOfFloat(i, j) : NO_SORT;
        }

        private boolean isConvertible(int op, int sort) {
            return isBits(sort) ? widthOf(sort) <= 32 : op == TO_FP && isFloat(sort);
        }
    }

    /** Words of bits as the encoder sees TERMS: the parts of one have lesser numbers than itself. */
    private static final class Words {
        static final int NUMBER = 0;
        static final int FREE = 1;
        static final int NOT = 2;
        static final int AND = 3;
        static final int OR = 4;
        static final int XOR = 5;
        static final int ITE = 6;
        static final int SUM = 7;
        static final int PRODUCT = 8;
        /** Quotient in the lower half, rest in the upper one. */
        static final int RATIO = 9;
        static final int EQUAL = 10;
        static final int LESS = 11;
        static final int JOIN = 12;
        static final int PART = 13;
        static final int SIGNED = 14;
        static final int LEFT = 15;
        static final int RIGHT = 16;
        static final int SIGNED_RIGHT = 17;
        /** To the right, with a lowest bit that tells whether ones were lost. */
        static final int STICKY_RIGHT = 18;
        /** Shifted to the left as far as its zeros go; above it stands by how much. */
        static final int NORMAL = 19;
        /** The root of a number, above it whether there is a rest. */
        static final int ROOT = 20;
        /** The highest bits of a word, with a lowest one that tells whether ones were lost. */
        static final int TOP = 21;
        private static final int HEADS = 4096;
        private static final int ITEMS = 256;
        private static final int DEGREE = 8;

        int count;
        int[] op = new int[512];
        int[] width = new int[512];
        int[] a = new int[512];
        int[] b = new int[512];
        int[] c = new int[512];
        /** Words of one bit that are true in each INTERPRETATION. */
        int[] fact = new int[64];
        int facts;
        /** A word was lost because room was not made for it. */
        boolean isShort;
        private int[] next = new int[512];
        private final int[] head = new int[HEADS];
        private int frees;
        /** Items of a sum: each a number of times the product of some words, modulo a power of two. */
        private final long[] times = new long[ITEMS];
        private final int[] factor = new int[DEGREE * ITEMS];
        private final int[] size = new int[ITEMS];
        private int items;
        private int modulus;

        Words() {
            Arrays.fill(head, -1);
        }

        void clear() {
            if (count > 0) {
                Arrays.fill(head, -1);
            }
            count = 0;
            facts = 0;
            frees = 0;
            isShort = false;
        }

        void makeRoom(int more) {
            op = roomFor(op, count + more);
            width = roomFor(width, count + more);
            a = roomFor(a, count + more);
            b = roomFor(b, count + more);
            c = roomFor(c, count + more);
            next = roomFor(next, count + more);
        }

        /** The word with these parts, the old one if there is the same already. */
        int node(int newOp, int newWidth, int newA, int newB, int newC) {
            int sum = ((newOp * 67 + newWidth) * 31 + newA) * 1021 + newB;
            sum = sum * 127 + newC;
            int h = (sum ^ sum >>> 12 ^ sum >>> 23) & HEADS - 1;
            for (int n = head[h]; n >= 0; n = next[n]) {
                if (op[n] == newOp && width[n] == newWidth && a[n] == newA && b[n] == newB && c[n] == newC) {
                    return n;
                }
            }
            if (count >= op.length) {
                isShort = true;
                return 0;
            }
            op[count] = newOp;
            width[count] = newWidth;
            a[count] = newA;
            b[count] = newB;
            c[count] = newC;
            next[count] = head[h];
            head[h] = count;
            count++;
            return count - 1;
        }

        void addFact(int bit) {
            fact = roomFor(fact, facts + 1);
            fact[facts] = bit;
            facts++;
        }

        int free(int w) {
            frees++;
            return node(FREE, w, frees, 0, 0);
        }

        int number(int w, long value) {
            return node(NUMBER, w, (int) value, (int) (value >> 32), 0);
        }

        int not(int x) {
            return node(NOT, width[x], x, 0, 0);
        }

        int and(int x, int y) {
            return node(AND, width[x], Math.min(x, y), Math.max(x, y), 0);
        }

        int or(int x, int y) {
            return node(OR, width[x], Math.min(x, y), Math.max(x, y), 0);
        }

        int xor(int x, int y) {
            return node(XOR, width[x], Math.min(x, y), Math.max(x, y), 0);
        }

        int ite(int bit, int x, int y) {
            return node(ITE, width[x], x, y, bit);
        }

        int equal(int x, int y) {
            return node(EQUAL, 1, Math.min(x, y), Math.max(x, y), 0);
        }

        int less(int x, int y) {
            return node(LESS, 1, x, y, 0);
        }

        int isZero(int x) {
            return node(EQUAL, 1, node(NUMBER, width[x], 0, 0, 0), x, 0);
        }

        /** x + y and one more if the bit is set. */
        int sum(int x, int y, int bit) {
            return node(SUM, width[x], Math.min(x, y), Math.max(x, y), bit);
        }

        int plus(int x, int y) {
            return node(SUM, width[x], Math.min(x, y), Math.max(x, y), node(NUMBER, 1, 0, 0, 0));
        }

        int minus(int x, int y) {
            return node(SUM, width[x], x, node(NOT, width[y], y, 0, 0), node(NUMBER, 1, 1, 0, 0));
        }

        int negative(int x) {
            return node(SUM, width[x], node(NUMBER, width[x], 0, 0, 0), node(NOT, width[x], x, 0, 0), node(NUMBER, 1, 1, 0, 0));
        }

        int join(int high, int low) {
            return node(JOIN, width[high] + width[low], high, low, 0);
        }

        int part(int x, int high, int low) {
            return high - low + 1 == width[x] ? x : node(PART, high - low + 1, x, low, 0);
        }

        int bit(int x, int k) {
            return width[x] == 1 ? x : node(PART, 1, x, k, 0);
        }

        int sign(int x) {
            return width[x] == 1 ? x : node(PART, 1, x, width[x] - 1, 0);
        }

        /** x with zeros above it. */
        int wide(int x, int w) {
            return w <= width[x] ? x : node(JOIN, w, node(NUMBER, w - width[x], 0, 0, 0), x, 0);
        }

        int product(int x, int y) {
            return node(PRODUCT, width[x], Math.min(x, y), Math.max(x, y), 0);
        }

        /** x and y are sums or products that come to the same whatever their parts are, as laws of numbers have it. */
        boolean isIdentity(int x, int y) {
            boolean isNumber = op[x] == SUM || op[x] == PRODUCT || op[y] == SUM || op[y] == PRODUCT;
            if (!isNumber || width[x] > 64) {
                return false;
            }
            makeRoom(ITEMS);
            modulus = width[x];
            items = 2;
            size[0] = 1;
            size[1] = 1;
            factor[0] = x;
            factor[DEGREE] = y;
            times[0] = 1;
            times[1] = -1;
            return openAll(false) && (items == 0 || openAll(true) && items == 0);
        }

        /** Opens all factors that can be, conditions and divisions too or not; false if there are too many. */
        private boolean openAll(boolean isDeep) {
            int at = 0;
            for (int step = 0; step < 16 * ITEMS && at < items; step++) {
                int place = findOpen(at, isDeep);
                if (place < 0) {
                    tidy(at);
                    at++;
                } else if (!open(at, place)) {
                    return false;
                }
            }
            boolean isDone = at == items;
            gather();
            return isDone;
        }

        private boolean isZeroTimes(long n) {
            return n << 64 - modulus == 0;
        }

        /** Which factor of an item can be told by others, -1 if none. */
        private int findOpen(int item, boolean isDeep) {
            if (isZeroTimes(times[item])) {
                size[item] = 0;
            }
            for (int k = 0; k < size[item]; k++) {
                int f = factor[DEGREE * item + k];
                int o = op[f];
                boolean isWhole = width[f] == modulus && (o == NOT || o == SUM || o == PRODUCT);
                boolean isChoice = width[f] == modulus && o == ITE || width[f] == 1 && o >= NOT && o <= ITE;
                if (o == NUMBER || isWhole || isDeep && (isChoice || isRest(f))) {
                    return k;
                }
            }
            return -1;
        }

        /** What a division leaves. */
        private boolean isRest(int f) {
            return op[f] == PART && op[a[f]] == RATIO && width[f] == modulus && width[a[f]] == 2 * modulus && b[f] == modulus;
        }

        /** Puts for a factor what it is made of: one item becomes some; false if there are too many. */
        private boolean open(int item, int place) {
            int f = factor[DEGREE * item + place];
            size[item]--;
            factor[DEGREE * item + place] = factor[DEGREE * item + size[item]];
            if (items + 2 > ITEMS || size[item] + 2 > DEGREE) {
                return false;
            }
            long n = times[item];
            switch (op[f]) {
                case NUMBER:
                    times[item] = n * (a[f] & 0xffffffffL | (long) b[f] << 32);
                    break;
                case NOT:
                    copy(item, -n, a[f]);
                    times[item] = width[f] == 1 ? n : -n;
                    break;
                case SUM:
                    copy(item, n, a[f]);
                    copy(item, n, b[f]);
                    put(item, c[f]);
                    break;
                case OR:
                case XOR:
                    copy(item, n, a[f]);
                    copy(item, n, b[f]);
                    times[item] = op[f] == OR ? -n : -2 * n;
                    put(item, a[f]);
                    put(item, b[f]);
                    break;
                case ITE:
                    copy(item, n, b[f]);
                    put(item, c[f]);
                    copy(item, n, a[f]);
                    times[item] = -n;
                    put(item, b[f]);
                    break;
                case PART:
                    copy(item, n, a[a[f]]);
                    times[item] = -n;
                    put(item, node(PART, modulus, a[f], 0, 0));
                    put(item, b[a[f]]);
                    break;
                default:
                    put(item, a[f]);
                    put(item, b[f]);
                    break;
            }
            return true;
        }

        private void put(int item, int f) {
            factor[DEGREE * item + size[item]] = f;
            size[item]++;
        }

        /** A new item: an old one with another number, and one more factor. */
        private void copy(int item, long n, int f) {
            System.arraycopy(factor, DEGREE * item, factor, DEGREE * items, size[item]);
            factor[DEGREE * items + size[item]] = f;
            size[items] = size[item] + 1;
            times[items] = n;
            items++;
        }

        /** Factors in order; a bit by itself is the bit. */
        private void tidy(int item) {
            int start = DEGREE * item;
            int kept = 0;
            for (int k = 0; k < size[item]; k++) {
                int f = factor[start + k];
                int m = kept;
                while (m > 0 && factor[start + m - 1] > f) {
                    m--;
                }
                if (m > 0 && factor[start + m - 1] == f && width[f] == 1) {
                    continue;
                }
                System.arraycopy(factor, start + m, factor, start + m + 1, kept - m);
                factor[start + m] = f;
                kept++;
            }
            size[item] = kept;
        }

        /** Puts items of the same factors together; those that are nothing then are gone. */
        private void gather() {
            int kept = 0;
            for (int i = 0; i < items; i++) {
                long sum = times[i];
                for (int k = i + 1; k < items; k++) {
                    if (isSameItem(i, k)) {
                        sum += times[k];
                        times[k] = 0;
                    }
                }
                if (!isZeroTimes(sum)) {
                    System.arraycopy(factor, DEGREE * i, factor, DEGREE * kept, size[i]);
                    size[kept] = size[i];
                    times[kept] = sum;
                    kept++;
                }
            }
            items = kept;
        }

        private boolean isSameItem(int i, int k) {
            boolean isSame = size[i] == size[k];
            for (int m = 0; isSame && m < size[i]; m++) {
                isSame = factor[DEGREE * i + m] == factor[DEGREE * k + m];
            }
            return isSame;
        }
    }

    /** Makes words of TERMS. */
    private static final class Lower {
        /** Bits of an exponent with sign: those of all products, ratios and whole numbers lie within -64 .. 63. */
        private static final int E = 7;
        /** What a floating point number is taken apart to; all are words. */
        private static final int SIGN = 0;
        private static final int IS_NAN = 1;
        private static final int IS_INFINITE = 2;
        private static final int IS_ZERO = 3;
        /** With the bias, of E bits. */
        private static final int EXPONENT = 4;
        /** With the bit that is not written. */
        private static final int SIGNIFICAND = 5;
        /** From how many bits on relations between words are stated, to how many before each, and how many in all. */
        private static final int WIDE = 10;
        private static final int NEAR = 4;
        private static final int RELATED = 24;

        private final Terms terms;
        private final Words words;
        private final int[] left = new int[6];
        private final int[] right = new int[6];
        private final int[] result = new int[6];
        /** Of each open SORT: how many TERMS have words, and the word of the highest element that one of them has. */
        private final int[] openSort = new int[Terms.OPEN_LIMIT];
        private final int[] openCount = new int[Terms.OPEN_LIMIT];
        private final int[] openHigh = new int[Terms.OPEN_LIMIT];
        private int opens;
        private int related;

        Lower(Terms terms, Words words) {
            this.terms = terms;
            this.words = words;
        }

        void clear() {
            opens = 0;
            related = 0;
        }

        private int wordAt(int t, int k) {
            return terms.word[terms.part(t, k)];
        }

        /** Room for all words that a TERM can need, its parts' pairs and its function's other TERMS too. */
        void makeRoom(int t) {
            int n = terms.size[t];
            int pairs = terms.op[t] == DISTINCT ? n * n / 2 : n;
            for (int k = 0; n > 0 && terms.op[t] == FUNCTION && k < terms.count; k++) {
                pairs += terms.op[k] == FUNCTION && terms.i[k] == terms.i[t] ? n + 2 : 0;
            }
            words.makeRoom(512 + 4 * pairs);
        }

        int leafWord(int t) {
            int sort = terms.sort[t];
            int w = widthOf(sort);
            switch (terms.op[t]) {
                case TRUE:
                    return words.number(1, 1);
                case FALSE:
                    return words.number(1, 0);
                case LITERAL:
                    return words.number(w, terms.value[t]);
                case PLUS_OO:
                case MINUS_OO:
                case PLUS_ZERO:
                case MINUS_ZERO:
                case NAN:
                    return words.number(w, floatBits(terms.op[t], exponentOf(sort), significandOf(sort)));
                default:
                    return words.number(3, terms.op[t] - RNE);
            }
        }

        private static long floatBits(int op, int e, int s) {
            long ones = (1L << e) - 1 << s - 1;
            long sign = 1L << e + s - 1;
            switch (op) {
                case PLUS_OO:
                    return ones;
                case MINUS_OO:
                    return sign | ones;
                case NAN:
                    return ones | 1L << s - 2;
                default:
                    return op == MINUS_ZERO ? sign : 0;
            }
        }

        /** A declared constant or a function's TERM: free bits, held to what its SORT and its function allow. */
        int symbolWord(int t) {
            int sort = terms.sort[t];
            int w = widthOf(sort);
            int result = isOpen(sort) ? element(sort) : words.free(w);
            if (sort == MODE_SORT) {
                words.addFact(words.not(words.and(words.bit(result, 2), words.or(words.bit(result, 1), words.bit(result, 0)))));
            }
            if (isFloat(sort)) {
                words.addFact(oneNaN(result, exponentOf(sort), significandOf(sort)));
            }
            for (int k = 0; terms.size[t] > 0 && k < terms.count; k++) {
                if (terms.op[k] == FUNCTION && terms.i[k] == terms.i[t] && k != t && terms.word[k] >= 0) {
                    words.addFact(sameIfParts(t, k, result));
                }
            }
            return result;
        }

        /** Elements have no order: each is one that a TERM before it has, or the next that none has. */
        private int element(int sort) {
            int k = 0;
            while (k < opens && openSort[k] != sort) {
                k++;
            }
            if (k >= Terms.OPEN_LIMIT) {
                return words.free(7);
            }
            if (k == opens) {
                opens++;
                openSort[k] = sort;
                openCount[k] = 1;
                openHigh[k] = words.number(7, 0);
                return openHigh[k];
            }
            int bits = 32 - Integer.numberOfLeadingZeros(openCount[k]);
            int high = openHigh[k];
            int result = words.wide(words.free(Math.min(7, bits)), 7);
            words.addFact(words.not(words.less(words.plus(high, words.number(7, 1)), result)));
            openHigh[k] = words.ite(words.less(high, result), result, high);
            openCount[k]++;
            return result;
        }

        /** With all ones in its exponent a number has no ones behind, or is the only NaN. */
        private int oneNaN(int x, int e, int s) {
            int ones = words.equal(words.part(x, e + s - 2, s - 1), words.number(e, (1L << e) - 1));
            int bad = words.and(words.sign(x), words.bit(x, s - 2));
            if (s > 2) {
                bad = words.or(bad, words.not(words.isZero(words.part(x, s - 3, 0))));
            }
            return words.not(words.and(ones, bad));
        }

        private int sameIfParts(int t, int k, int result) {
            int same = words.number(1, 1);
            for (int n = 0; n < terms.size[t]; n++) {
                same = words.and(same, words.equal(wordAt(t, n), wordAt(k, n)));
            }
            return words.or(words.not(same), words.equal(result, terms.word[k]));
        }

        /** States what is known of wide words beforehand, and what a search would have to find out bit by bit. */
        void relate(int n) {
            int op = words.op[n];
            if ((op == Words.EQUAL || op == Words.LESS) && words.isIdentity(words.a[n], words.b[n])) {
                words.makeRoom(1);
                words.addFact(op == Words.EQUAL ? n : words.not(n));
            }
            if (op != Words.PRODUCT && op != Words.RATIO || words.width[words.a[n]] < WIDE) {
                return;
            }
            words.makeRoom(256);
            if (op == Words.RATIO) {
                boundRatio(n);
            } else {
                boundProduct(n, words.a[n], words.b[n]);
                boundProduct(n, words.b[n], words.a[n]);
            }
            int stop = Math.min(RELATED, related + NEAR);
            for (int k = n - 1; k >= 0 && related < stop; k--) {
                if (words.op[k] == op && words.width[k] == words.width[n]) {
                    related++;
                    if (op == Words.RATIO) {
                        relateRatios(n, k);
                    } else {
                        relateProducts(n, k, words.a[k], words.b[k]);
                        relateProducts(n, k, words.b[k], words.a[k]);
                    }
                }
            }
        }

        private int atMost(int x, int y) {
            return words.not(words.less(y, x));
        }

        /** What follows if both are true. */
        private void addRule(int x, int y, int then) {
            words.addFact(words.or(words.not(words.and(x, y)), then));
        }

        private int quotient(int ratio) {
            return words.part(ratio, words.width[ratio] / 2 - 1, 0);
        }

        private int rest(int ratio) {
            return words.part(ratio, words.width[ratio] - 1, words.width[ratio] / 2);
        }

        private void boundRatio(int n) {
            int x = words.a[n];
            int y = words.b[n];
            words.addFact(words.or(words.isZero(y), words.less(rest(n), y)));
            words.addFact(words.or(words.isZero(y), atMost(quotient(n), x)));
            words.addFact(atMost(rest(n), x));
        }

        /** A product of x and y, if x is a ratio to y, or if nothing is lost of it. */
        private void boundProduct(int n, int x, int y) {
            int ratio = words.op[x] == Words.PART ? words.a[x] : n;
            boolean isQuotient = words.op[ratio] == Words.RATIO && words.width[ratio] == 2 * words.width[x];
            if (isQuotient && words.b[x] == 0 && words.b[ratio] == y) {
                words.addFact(atMost(n, words.a[ratio]));
                words.addFact(words.equal(words.a[ratio], words.plus(n, rest(ratio))));
            }
            if (isExact(n)) {
                words.addFact(words.or(words.isZero(y), atMost(x, n)));
            }
        }

        private boolean isExact(int product) {
            return usedBits(words.a[product]) + usedBits(words.b[product]) <= words.width[product];
        }

        /** How many bits of a word may be ones. */
        private int usedBits(int x) {
            boolean isLow = words.op[x] == Words.JOIN && words.op[words.a[x]] == Words.NUMBER;
            boolean isZero = isLow && words.a[words.a[x]] == 0 && words.b[words.a[x]] == 0;
            return isZero ? words.width[words.b[x]] : words.width[x];
        }

        /** Greater parts make a greater product, and the same ones the same. */
        private void relateProducts(int n, int k, int x, int y) {
            int a = words.a[n];
            int b = words.b[n];
            addRule(words.equal(a, x), words.equal(b, y), words.equal(n, k));
            if (isExact(n) && isExact(k)) {
                addRule(atMost(a, x), atMost(b, y), atMost(n, k));
                addRule(atMost(x, a), atMost(y, b), atMost(k, n));
                if (a == x || b == y) {
                    int some = words.not(words.isZero(a == x ? a : b));
                    addRule(words.less(a == x ? b : a, a == x ? y : x), some, words.less(n, k));
                    addRule(words.less(a == x ? y : x, a == x ? b : a), some, words.less(k, n));
                }
            }
        }

        private void relateRatios(int n, int k) {
            int a = words.a[n];
            int b = words.b[n];
            int x = words.a[k];
            int y = words.b[k];
            addRule(words.equal(a, x), words.equal(b, y), words.equal(n, k));
            addRule(atMost(a, x), atMost(y, b), atMost(quotient(n), quotient(k)));
            addRule(atMost(x, a), atMost(b, y), atMost(quotient(k), quotient(n)));
        }

        int coreWord(int t) {
            int x = wordAt(t, 0);
            switch (terms.op[t]) {
                case NOT:
                    return words.not(x);
                case ITE:
                    return words.ite(x, wordAt(t, 1), wordAt(t, 2));
                case IMPLIES:
                    return implication(t);
                case EQUAL:
                    return equality(t);
                case DISTINCT:
                    return difference(t);
                default:
                    return chain(t);
            }
        }

        private int implication(int t) {
            int result = wordAt(t, terms.size[t] - 1);
            for (int k = terms.size[t] - 2; k >= 0; k--) {
                result = words.or(words.not(wordAt(t, k)), result);
            }
            return result;
        }

        private int equality(int t) {
            int result = words.equal(wordAt(t, 0), wordAt(t, 1));
            for (int k = 2; k < terms.size[t]; k++) {
                result = words.and(result, words.equal(wordAt(t, k - 1), wordAt(t, k)));
            }
            return result;
        }

        private int difference(int t) {
            int sort = terms.sort[terms.part(t, 0)];
            int w = widthOf(sort);
            // More parts than values: a search would find that out the hard way.
            if (!isOpen(sort) && w < 13 && terms.size[t] > (sort == MODE_SORT ? 5 : 1 << w)) {
                return words.number(1, 0);
            }
            int result = words.number(1, 1);
            for (int k = 1; k < terms.size[t]; k++) {
                for (int m = 0; m < k; m++) {
                    result = words.and(result, words.not(words.equal(wordAt(t, m), wordAt(t, k))));
                }
            }
            return result;
        }

        /** OPERATIONS that take their parts one by one, from the left. */
        private int chain(int t) {
            int result = wordAt(t, 0);
            for (int k = 1; k < terms.size[t]; k++) {
                int x = wordAt(t, k);
                switch (terms.op[t]) {
                    case AND:
                    case BVAND:
                        result = words.and(result, x);
                        break;
                    case OR:
                    case BVOR:
                        result = words.or(result, x);
                        break;
                    case BVADD:
                        result = words.plus(result, x);
                        break;
                    case BVMUL:
                        result = words.product(result, x);
                        break;
                    case CONCAT:
                        result = words.join(result, x);
                        break;
                    default:
                        result = words.xor(result, x);
                        break;
                }
            }
            return result;
        }

        /** OPERATIONS that give a part of a bit-vector another place. */
        int shapeWord(int t) {
            int x = wordAt(t, 0);
            int w = words.width[x];
            int k = terms.i[t];
            switch (terms.op[t]) {
                case EXTRACT:
                    return words.part(x, k, terms.j[t]);
                case ZERO_EXTEND:
                    return words.wide(x, w + k);
                case SIGN_EXTEND:
                    return words.node(Words.SIGNED, w + k, x, 0, 0);
                case REPEAT:
                    int result = x;
                    for (int n = 1; n < k; n++) {
                        result = words.join(result, x);
                    }
                    return result;
                default:
                    int left = w > 0 ? k % w : 0;
                    if (terms.op[t] == ROTATE_RIGHT) {
                        left = left == 0 ? 0 : w - left;
                    }
                    return left == 0 ? x : words.join(words.part(x, w - 1 - left, 0), words.part(x, w - 1, w - left));
            }
        }

        int bitsWord(int t) {
            int op = terms.op[t];
            if (op >= BVULT) {
                return orderWord(t);
            }
            int x = wordAt(t, 0);
            if (op == BVNOT) {
                return words.not(x);
            }
            if (op == BVNEG) {
                return words.negative(x);
            }
            int y = wordAt(t, 1);
            int w = words.width[x];
            switch (op) {
                case BVNAND:
                    return words.not(words.and(x, y));
                case BVNOR:
                    return words.not(words.or(x, y));
                case BVXNOR:
                    return words.not(words.xor(x, y));
                case BVSUB:
                    return words.minus(x, y);
                case BVCOMP:
                    return words.equal(x, y);
                case BVSHL:
                case BVLSHR:
                case BVASHR:
                    return words.node(Words.LEFT + op - BVSHL, w, x, y, 0);
                case BVUDIV:
                    return words.part(ratio(x, y), w - 1, 0);
                case BVUREM:
                    return words.part(ratio(x, y), 2 * w - 1, w);
                case BVSDIV:
                case BVSREM:
                case BVSMOD:
                    return signedRatio(op, x, y);
                default:
                    return chain(t);
            }
        }

        /** Quotient and rest; of a number to itself they are known without division. */
        private int ratio(int x, int y) {
            int w = words.width[x];
            if (x != y) {
                return words.node(Words.RATIO, 2 * w, x, y, 0);
            }
            int one = words.ite(words.isZero(x), words.number(w, -1), words.number(w, 1));
            return words.join(words.number(w, 0), one);
        }

        private int signedRatio(int op, int x, int y) {
            int w = words.width[x];
            int minusX = words.sign(x);
            int minusY = words.sign(y);
            int sizeX = words.ite(minusX, words.negative(x), x);
            int sizeY = words.ite(minusY, words.negative(y), y);
            int ratio = ratio(sizeX, sizeY);
            if (op == BVSDIV) {
                int quotient = words.part(ratio, w - 1, 0);
                return words.ite(words.xor(minusX, minusY), words.negative(quotient), quotient);
            }
            int size = words.part(ratio, 2 * w - 1, w);
            int rest = words.ite(minusX, words.negative(size), size);
            if (op == BVSREM) {
                return rest;
            }
            int isRight = words.or(words.isZero(size), words.not(words.xor(minusX, minusY)));
            return words.ite(isRight, rest, words.plus(rest, y));
        }

        private int orderWord(int t) {
            int op = terms.op[t];
            int x = wordAt(t, 0);
            int y = wordAt(t, 1);
            if (op >= BVSLT) {
                int flip = words.number(words.width[x], 1L << words.width[x] - 1);
                x = words.xor(x, flip);
                y = words.xor(y, flip);
                op -= BVSLT - BVULT;
            }
            switch (op) {
                case BVULT:
                    return words.less(x, y);
                case BVULE:
                    return words.not(words.less(y, x));
                case BVUGT:
                    return words.less(y, x);
                default:
                    return words.not(words.less(x, y));
            }
        }

        private static int bias(int e) {
            return (1 << e - 1) - 1;
        }

        /** OPERATIONS that do not round. */
        int exactWord(int t) {
            int op = terms.op[t];
            int sort = terms.sort[terms.part(t, 0)];
            int x = wordAt(t, 0);
            if (op == FP) {
                return canonical(words.join(words.join(x, wordAt(t, 1)), wordAt(t, 2)), terms.sort[t]);
            }
            if (op == TO_FP) {
                return canonical(x, terms.sort[t]);
            }
            takeApart(left, x, sort);
            if (op <= FP_NEG || op >= FP_IS_NORMAL) {
                return ofOne(op, x, sort);
            }
            int y = wordAt(t, 1);
            takeApart(right, y, sort);
            switch (op) {
                case FP_MIN:
                    return words.ite(left[IS_NAN], y, words.ite(words.or(right[IS_NAN], isLess(x, y, left, right)), x, y));
                case FP_MAX:
                    return words.ite(left[IS_NAN], y, words.ite(words.or(right[IS_NAN], isLess(y, x, right, left)), x, y));
                case FP_LT:
                    return isLess(x, y, left, right);
                case FP_GT:
                    return isLess(y, x, right, left);
                case FP_LEQ:
                    return words.or(isLess(x, y, left, right), isEqual(x, y));
                case FP_GEQ:
                    return words.or(isLess(y, x, right, left), isEqual(x, y));
                default:
                    return isEqual(x, y);
            }
        }

        /** The number with these bits; all NaNs become the one. */
        private int canonical(int x, int sort) {
            int e = exponentOf(sort);
            int s = significandOf(sort);
            int ones = words.equal(words.part(x, e + s - 2, s - 1), words.number(e, (1L << e) - 1));
            int nan = words.and(ones, words.not(words.isZero(words.part(x, s - 2, 0))));
            return words.ite(nan, nan(e, s), x);
        }

        private int nan(int e, int s) {
            return words.number(e + s, (1L << e) - 1 << s - 1 | 1L << s - 2);
        }

        private void takeApart(int[] p, int x, int sort) {
            int e = exponentOf(sort);
            int s = significandOf(sort);
            int exponent = words.part(x, e + s - 2, s - 1);
            int ones = words.equal(exponent, words.number(e, (1L << e) - 1));
            int isSmall = words.isZero(exponent);
            int top = words.bit(x, s - 2);
            p[SIGN] = words.sign(x);
            p[IS_NAN] = words.and(ones, top);
            p[IS_INFINITE] = words.and(ones, words.not(top));
            p[IS_ZERO] = words.isZero(words.part(x, e + s - 2, 0));
            p[EXPONENT] = words.wide(words.or(exponent, words.wide(isSmall, e)), E);
            p[SIGNIFICAND] = words.join(words.not(isSmall), words.part(x, s - 2, 0));
        }

        /** Moves the significand's highest one to its place; of zero nothing is to be expected. */
        private void normalise(int[] p) {
            int s = words.width[p[SIGNIFICAND]];
            int shifts = 32 - Integer.numberOfLeadingZeros(s - 1);
            int both = words.node(Words.NORMAL, s + shifts, p[SIGNIFICAND], 0, 0);
            int by = words.wide(words.part(both, s + shifts - 1, s), E);
            p[EXPONENT] = words.minus(p[EXPONENT], by);
            p[SIGNIFICAND] = words.join(words.number(1, 1), words.part(both, s - 2, 0));
        }

        private int ofOne(int op, int x, int sort) {
            int e = exponentOf(sort);
            int s = significandOf(sort);
            int isSmall = words.isZero(words.part(x, e + s - 2, s - 1));
            switch (op) {
                case FP_ABS:
                    return words.join(words.number(1, 0), words.part(x, e + s - 2, 0));
                case FP_NEG:
                    int sign = words.and(words.not(left[SIGN]), words.not(left[IS_NAN]));
                    return words.join(sign, words.part(x, e + s - 2, 0));
                case FP_IS_NORMAL:
                    return words.not(words.or(isSmall, words.or(left[IS_NAN], left[IS_INFINITE])));
                case FP_IS_SUBNORMAL:
                    return words.and(isSmall, words.not(left[IS_ZERO]));
                case FP_IS_ZERO:
                    return left[IS_ZERO];
                case FP_IS_INFINITE:
                    return left[IS_INFINITE];
                case FP_IS_NAN:
                    return left[IS_NAN];
                case FP_IS_NEGATIVE:
                    return left[SIGN];
                default:
                    return words.not(words.or(left[SIGN], left[IS_NAN]));
            }
        }

        private int isLess(int x, int y, int[] p, int[] q) {
            int w = words.width[x];
            int sizeX = words.part(x, w - 2, 0);
            int sizeY = words.part(y, w - 2, 0);
            int below = words.ite(q[SIGN], words.less(sizeY, sizeX), words.number(1, 1));
            int above = words.and(words.not(q[SIGN]), words.less(sizeX, sizeY));
            int wrong = words.or(words.and(p[IS_ZERO], q[IS_ZERO]), words.or(p[IS_NAN], q[IS_NAN]));
            return words.and(words.not(wrong), words.ite(p[SIGN], below, above));
        }

        private int isEqual(int x, int y) {
            int same = words.or(words.equal(x, y), words.and(left[IS_ZERO], right[IS_ZERO]));
            return words.and(same, words.not(words.or(left[IS_NAN], right[IS_NAN])));
        }

        /** OPERATIONS that round. */
        int roundedWord(int t) {
            int op = terms.op[t];
            int sort = terms.sort[terms.part(t, 1)];
            int x = wordAt(t, 1);
            int mode = wordAt(t, 0);
            if (isFloat(sort)) {
                takeApart(left, x, sort);
            }
            switch (op) {
                case FP_RTI:
                    return integral(mode, x, sort);
                case TO_UBV:
                case TO_SBV:
                    return wholeNumber(op, mode, sort, widthOf(terms.sort[t]));
                case FP_SQRT:
                    root(sort);
                    break;
                case TO_FP:
                case TO_FP_UNSIGNED:
                    convert(op, x, sort, terms.sort[t]);
                    break;
                default:
                    int y = wordAt(t, 2);
                    if (op == FP_ADD && x > y) {
                        takeApart(left, y, sort);
                        takeApart(right, x, sort);
                        ofTwo(op, mode, y, x, sort);
                    } else {
                        takeApart(right, y, sort);
                        ofTwo(op, mode, x, y, sort);
                    }
                    break;
            }
            return rounded(mode, exponentOf(terms.sort[t]), significandOf(terms.sort[t]));
        }

        private void ofTwo(int op, int mode, int x, int y, int sort) {
            if (op == FP_SUB) {
                right[SIGN] = words.not(right[SIGN]);
            }
            if (op <= FP_SUB) {
                add(mode, x, y, sort);
                normalise(result);
                return;
            }
            int bias = bias(exponentOf(sort));
            result[SIGN] = words.xor(left[SIGN], right[SIGN]);
            result[IS_NAN] = words.or(left[IS_NAN], right[IS_NAN]);
            int wrong;
            normalise(left);
            normalise(right);
            if (op == FP_MUL) {
                wrong = words.or(words.and(left[IS_INFINITE], right[IS_ZERO]), words.and(left[IS_ZERO], right[IS_INFINITE]));
                result[IS_INFINITE] = words.or(left[IS_INFINITE], right[IS_INFINITE]);
                result[IS_ZERO] = words.or(left[IS_ZERO], right[IS_ZERO]);
                multiply(bias);
            } else {
                wrong = words.or(words.and(left[IS_INFINITE], right[IS_INFINITE]), words.and(left[IS_ZERO], right[IS_ZERO]));
                result[IS_INFINITE] = words.or(left[IS_INFINITE], right[IS_ZERO]);
                result[IS_ZERO] = words.or(left[IS_ZERO], right[IS_INFINITE]);
                divide(bias);
            }
            result[IS_NAN] = words.or(result[IS_NAN], wrong);
        }

        /** The greater one first, the lesser one moved to its place with three bits more and what is lost of it. */
        private void add(int mode, int x, int y, int sort) {
            int e = exponentOf(sort);
            int s = significandOf(sort);
            int w = e + s;
            int swap = words.less(words.part(x, w - 2, 0), words.part(y, w - 2, 0));
            int sign = words.ite(swap, right[SIGN], left[SIGN]);
            int exponent = words.ite(swap, right[EXPONENT], left[EXPONENT]);
            int lesser = words.ite(swap, left[EXPONENT], right[EXPONENT]);
            int big = words.join(words.ite(swap, right[SIGNIFICAND], left[SIGNIFICAND]), words.number(3, 0));
            int small = words.join(words.ite(swap, left[SIGNIFICAND], right[SIGNIFICAND]), words.number(3, 0));
            int apart = words.minus(words.part(exponent, e - 1, 0), words.part(lesser, e - 1, 0));
            int moved = words.wide(words.node(Words.STICKY_RIGHT, s + 3, small, apart, 0), s + 4);
            int differ = words.xor(left[SIGN], right[SIGN]);
            int term = words.ite(differ, words.not(moved), moved);
            int sum = words.sum(words.wide(big, s + 4), term, differ);
            int isDown = words.equal(mode, words.number(3, 3));
            int isNothing = words.isZero(sum);
            int clash = words.and(words.and(left[IS_INFINITE], right[IS_INFINITE]), differ);
            result[SIGN] = words.ite(isNothing, words.ite(differ, isDown, left[SIGN]), sign);
            result[IS_NAN] = words.or(words.or(left[IS_NAN], right[IS_NAN]), clash);
            result[IS_INFINITE] = words.or(left[IS_INFINITE], right[IS_INFINITE]);
            result[IS_ZERO] = isNothing;
            result[EXPONENT] = words.plus(exponent, words.number(E, 1));
            result[SIGNIFICAND] = sum;
        }

        private void multiply(int bias) {
            int s = words.width[left[SIGNIFICAND]];
            int product = words.product(words.wide(left[SIGNIFICAND], 2 * s), words.wide(right[SIGNIFICAND], 2 * s));
            int top = words.sign(product);
            int low = words.join(words.part(product, 2 * s - 2, 0), words.number(1, 0));
            result[SIGNIFICAND] = words.ite(top, product, low);
            int exponent = words.plus(left[EXPONENT], right[EXPONENT]);
            result[EXPONENT] = words.sum(exponent, words.number(E, -bias), top);
        }

        private void divide(int bias) {
            int s = words.width[left[SIGNIFICAND]];
            int w = 2 * s + 1;
            int dividend = words.join(left[SIGNIFICAND], words.number(s + 1, 0));
            int ratio = words.node(Words.RATIO, 2 * w, dividend, words.wide(right[SIGNIFICAND], w), 0);
            int quotient = words.part(ratio, s + 1, 0);
            int rest = words.not(words.isZero(words.part(ratio, 2 * w - 1, w)));
            int top = words.sign(quotient);
            int whole = words.join(quotient, rest);
            int low = words.join(words.part(whole, s + 1, 0), words.number(1, 0));
            result[SIGNIFICAND] = words.ite(top, whole, low);
            int exponent = words.plus(left[EXPONENT], words.not(right[EXPONENT]));
            result[EXPONENT] = words.sum(exponent, words.number(E, bias), top);
        }

        private void root(int sort) {
            int s = significandOf(sort);
            int bias = bias(exponentOf(sort));
            normalise(left);
            int twice = words.plus(left[EXPONENT], words.number(E, bias));
            int isOdd = words.bit(twice, 0);
            int even = words.join(words.number(1, 0), left[SIGNIFICAND]);
            int odd = words.join(left[SIGNIFICAND], words.number(1, 0));
            int square = words.join(words.ite(isOdd, odd, even), words.number(s + 1, 0));
            int both = words.node(Words.ROOT, s + 2, square, 0, 0);
            result[SIGNIFICAND] = words.join(words.part(both, s, 0), words.bit(both, s + 1));
            result[EXPONENT] = words.join(words.sign(twice), words.part(twice, E - 1, 1));
            result[SIGN] = left[SIGN];
            result[IS_ZERO] = left[IS_ZERO];
            result[IS_NAN] = words.or(left[IS_NAN], words.and(left[SIGN], words.not(left[IS_ZERO])));
            result[IS_INFINITE] = left[IS_INFINITE];
        }

        private void convert(int op, int x, int from, int to) {
            int bias = bias(exponentOf(to));
            int no = words.number(1, 0);
            if (isFloat(from)) {
                result[SIGN] = left[SIGN];
                result[IS_NAN] = left[IS_NAN];
                result[IS_INFINITE] = left[IS_INFINITE];
                result[IS_ZERO] = left[IS_ZERO];
                result[EXPONENT] = words.plus(left[EXPONENT], words.number(E, bias - bias(exponentOf(from))));
                result[SIGNIFICAND] = left[SIGNIFICAND];
            } else {
                int w = words.width[x];
                result[SIGN] = op == TO_FP ? words.sign(x) : no;
                result[IS_NAN] = no;
                result[IS_INFINITE] = no;
                result[IS_ZERO] = words.isZero(x);
                result[EXPONENT] = words.number(E, w - 1 + bias);
                result[SIGNIFICAND] = words.ite(result[SIGN], words.negative(x), x);
                if (w == 1) {
                    result[SIGNIFICAND] = words.join(x, no);
                }
            }
            normalise(result);
        }

        /** What is too big becomes infinite: to the nearest, or of the modes up and down the one for this sign. */
        private int isOverflow(int mode, int sign) {
            int isNear = words.not(words.or(words.bit(mode, 1), words.bit(mode, 2)));
            return words.or(isNear, words.and(words.bit(mode, 1), words.not(words.xor(words.bit(mode, 0), sign))));
        }

        /** One more is due for a number whose last bit, and two behind it for a half and for a rest, are the lowest of x. */
        private int isMore(int mode, int sign, int x) {
            int half = words.bit(x, 1);
            int rest = words.bit(x, 0);
            int isNear = words.not(words.or(words.bit(mode, 1), words.bit(mode, 2)));
            int isAway = words.and(words.bit(mode, 1), words.not(words.xor(words.bit(mode, 0), sign)));
            int upper = words.or(words.bit(mode, 0), words.or(rest, words.bit(x, 2)));
            int near = words.and(isNear, words.and(half, upper));
            return words.or(near, words.and(isAway, words.or(half, rest)));
        }

        /** The result's bits: exponent and significand are added as they are written, so that a carry goes the right way. */
        private int rounded(int mode, int e, int s) {
            int field = words.minus(result[EXPONENT], words.number(E, 1));
            int isSmall = words.sign(field);
            int zero = words.number(E, 0);
            int by = words.part(words.ite(isSmall, words.negative(field), zero), E - 2, 0);
            int top = words.node(Words.TOP, s + 2, result[SIGNIFICAND], 0, 0);
            int moved = words.node(Words.STICKY_RIGHT, s + 2, top, by, 0);
            int kept = words.part(moved, s + 1, 2);
            int more = isMore(mode, result[SIGN], moved);
            int shifted = words.join(words.ite(isSmall, zero, field), words.number(s - 1, 0));
            int packed = words.sum(shifted, words.wide(kept, E + s - 1), more);
            int tooBig = words.not(words.less(words.part(packed, E + s - 2, s - 1), words.number(E, (1L << e) - 1)));
            long ones = (1L << e) - 1 << s - 1;
            int infinite = words.number(e + s - 1, ones);
            int greatest = words.number(e + s - 1, ones - 1);
            int beyond = words.ite(isOverflow(mode, result[SIGN]), infinite, greatest);
            int size = words.ite(tooBig, beyond, words.part(packed, e + s - 2, 0));
            size = words.ite(result[IS_ZERO], words.number(e + s - 1, 0), words.ite(result[IS_INFINITE], infinite, size));
            return words.ite(result[IS_NAN], nan(e, s), words.join(result[SIGN], size));
        }

        private int integral(int mode, int x, int sort) {
            int e = exponentOf(sort);
            int s = significandOf(sort);
            int bias = bias(e);
            int behind = words.minus(words.number(E, s - 1 + bias), left[EXPONENT]);
            int most = 32 - Integer.numberOfLeadingZeros(s - 1 + bias);
            int by = words.part(words.ite(words.sign(behind), words.number(E, 0), behind), most - 1, 0);
            int moved = words.node(Words.STICKY_RIGHT, s + 2, words.join(left[SIGNIFICAND], words.number(2, 0)), by, 0);
            int whole = words.part(moved, s + 1, 2);
            int more = isMore(mode, left[SIGN], moved);
            int next = words.sum(words.wide(whole, s + 1), words.number(s + 1, 0), more);
            int back = words.node(Words.LEFT, s + 1, next, by, 0);
            int w = e + s - 1;
            int field = words.part(words.minus(left[EXPONENT], words.number(E, 1)), e - 1, 0);
            int packed = words.plus(words.join(field, words.number(s - 1, 0)), words.wide(back, w));
            int one = words.ite(words.bit(next, 0), words.number(w, (long) bias << s - 1), words.number(w, 0));
            int isBelowOne = words.less(left[EXPONENT], words.number(E, bias));
            int size = words.ite(isBelowOne, one, packed);
            return words.ite(words.or(left[IS_NAN], left[IS_INFINITE]), x, words.join(left[SIGN], size));
        }

        private int wholeNumber(int op, int mode, int sort, int m) {
            int e = exponentOf(sort);
            int s = significandOf(sort);
            int bias = bias(e);
            int whole = bias + 1;
            int w = Math.max(s, whole) + 2;
            int start = words.join(left[SIGNIFICAND], words.number(w - s, 0));
            int by = words.minus(words.number(e, 2 * bias), words.part(left[EXPONENT], e - 1, 0));
            int moved = words.node(Words.STICKY_RIGHT, w, start, by, 0);
            int top = words.node(Words.TOP, whole + 2, moved, 0, 0);
            int more = isMore(mode, left[SIGN], top);
            int size = Math.max(m, whole + 1) + 1;
            int number = words.sum(words.wide(words.part(top, whole + 1, 2), size), words.number(size, 0), more);
            int isBad = words.or(left[IS_NAN], left[IS_INFINITE]);
            int isBig;
            if (op == TO_UBV) {
                int isNegative = words.and(left[SIGN], words.not(words.isZero(number)));
                isBig = words.or(isNegative, words.not(words.less(number, words.number(size, 1L << m))));
            } else {
                int limit = words.sum(words.number(size, 1L << m - 1), words.number(size, 0), left[SIGN]);
                isBig = words.not(words.less(number, limit));
                number = words.ite(left[SIGN], words.negative(number), number);
            }
            int fit = words.part(number, m - 1, 0);
            return words.ite(words.or(isBad, isBig), words.number(m, 0), fit);
        }
    }

    /** Gates: a literal is twice a variable, and one more if it is negated; variable 0 is true. */
    private static final class Net {
        static final int TRUE = 0;
        static final int FALSE = 1;
        static final int AND = 0;
        static final int XOR = 1;
        static final int MUX = 2;
        static final int MAJORITY = 3;
        static final int PARITY = 4;
        static final int ALL = 5;
        private static final int HEADS = 8192;

        /** How many variables there are. */
        int variables = 1;
        int count;
        int[] kind = new int[512];
        int[] a = new int[512];
        int[] b = new int[512];
        int[] c = new int[512];
        int[] out = new int[512];
        /** The literals of the gates that are true if all of them are. */
        int[] many = new int[256];
        int manyTop;
        boolean isShort;
        private int[] next = new int[512];
        private final int[] head = new int[HEADS];
        private final Sat sat;

        Net(Sat sat) {
            this.sat = sat;
            Arrays.fill(head, -1);
        }

        void clear() {
            if (count > 0) {
                Arrays.fill(head, -1);
            }
            variables = 1;
            count = 0;
            manyTop = 0;
            isShort = false;
        }

        void makeRoom(int more) {
            kind = roomFor(kind, count + more);
            a = roomFor(a, count + more);
            b = roomFor(b, count + more);
            c = roomFor(c, count + more);
            out = roomFor(out, count + more);
            next = roomFor(next, count + more);
            many = roomFor(many, manyTop + 256);
        }

        int free() {
            variables++;
            return 2 * variables - 2;
        }

        /** The literal, or what is known of it once and for all. */
        private int known(int x) {
            if (x >= 2 * sat.variables || sat.value[x] == 0) {
                return x;
            }
            return sat.value[x] > 0 ? TRUE : FALSE;
        }

        private int gate(int newKind, int x, int y, int z) {
            int sum = ((newKind * 31 + x) * 1021 + y) * 8191 + z;
            int h = (sum ^ sum >>> 13 ^ sum >>> 21) & HEADS - 1;
            for (int g = head[h]; g >= 0; g = next[g]) {
                if (kind[g] == newKind && a[g] == x && b[g] == y && c[g] == z) {
                    return out[g];
                }
            }
            if (count >= kind.length) {
                isShort = true;
                return TRUE;
            }
            kind[count] = newKind;
            a[count] = x;
            b[count] = y;
            c[count] = z;
            out[count] = 2 * variables;
            variables++;
            next[count] = head[h];
            head[h] = count;
            count++;
            return out[count - 1];
        }

        int and(int x, int y) {
            int p = known(x);
            int q = known(y);
            if (p == FALSE || q == FALSE || p == (q ^ 1)) {
                return FALSE;
            }
            if (p == TRUE || p == q) {
                return q;
            }
            if (q == TRUE) {
                return p;
            }
            return gate(AND, Math.min(p, q), Math.max(p, q), 0);
        }

        int or(int x, int y) {
            int p = known(x);
            int q = known(y);
            if (p == TRUE || q == TRUE || p == (q ^ 1)) {
                return TRUE;
            }
            if (p == FALSE || p == q) {
                return q;
            }
            if (q == FALSE) {
                return p;
            }
            return gate(AND, Math.min(p ^ 1, q ^ 1), Math.max(p ^ 1, q ^ 1), 0) ^ 1;
        }

        int xor(int x, int y) {
            int p = known(x);
            int q = known(y);
            int flip = (p ^ q) & 1;
            p &= ~1;
            q &= ~1;
            if (p == q) {
                return FALSE ^ flip;
            }
            if (p == TRUE || q == TRUE) {
                return (p | q) ^ 1 ^ flip;
            }
            return gate(XOR, Math.min(p, q), Math.max(p, q), 0) ^ flip;
        }

        int mux(int bit, int x, int y) {
            int s = known(bit);
            int p = known(x);
            int q = known(y);
            if ((s & 1) != 0) {
                s ^= 1;
                int other = p;
                p = q;
                q = other;
            }
            if (s == TRUE || p == q) {
                return p;
            }
            if (p == (q ^ 1)) {
                return xor(s, q);
            }
            if (p == TRUE || p == s) {
                return or(s, q);
            }
            if (p == FALSE || p == (s ^ 1)) {
                return and(s ^ 1, q);
            }
            if (q == TRUE || q == (s ^ 1)) {
                return or(s ^ 1, p);
            }
            if (q == FALSE || q == s) {
                return and(s, p);
            }
            int flip = p & 1;
            return gate(MUX, s, p ^ flip, q ^ flip) ^ flip;
        }

        int majority(int x, int y, int z) {
            int p = known(x);
            int q = known(y);
            int r = known(z);
            if (p == q || q == r || p == (r ^ 1)) {
                return q;
            }
            if (p == r || q == (r ^ 1)) {
                return p;
            }
            if (p == (q ^ 1)) {
                return r;
            }
            int low = Math.min(p, Math.min(q, r));
            int high = Math.max(p, Math.max(q, r));
            int middle = p + q + r - low - high;
            if (low == TRUE) {
                return or(middle, high);
            }
            if (low == FALSE) {
                return and(middle, high);
            }
            int flip = (low & 1) + (middle & 1) + (high & 1) >= 2 ? 1 : 0;
            return gate(MAJORITY, low ^ flip, middle ^ flip, high ^ flip) ^ flip;
        }

        int parity(int x, int y, int z) {
            int p = known(x);
            int q = known(y);
            int r = known(z);
            int flip = (p ^ q ^ r) & 1;
            p &= ~1;
            q &= ~1;
            r &= ~1;
            int low = Math.min(p, Math.min(q, r));
            int high = Math.max(p, Math.max(q, r));
            int middle = p + q + r - low - high;
            if (low == middle) {
                return high ^ flip;
            }
            if (middle == high) {
                return low ^ flip;
            }
            if (low == TRUE) {
                return xor(middle, high) ^ 1 ^ flip;
            }
            return gate(PARITY, low, middle, high) ^ flip;
        }

        /** All of the n literals in a row are true. */
        int all(int[] row, int n) {
            int start = manyTop;
            int kept = 0;
            for (int k = 0; k < n; k++) {
                int x = known(row[k]);
                if (x == FALSE) {
                    return FALSE;
                }
                if (x != TRUE && start + kept < many.length) {
                    many[start + kept] = x;
                    kept++;
                }
            }
            if (kept <= 2) {
                return kept == 0 ? TRUE : and(many[start], many[start + kept - 1]);
            }
            if (count >= kind.length) {
                isShort = true;
                return TRUE;
            }
            manyTop += kept;
            kind[count] = ALL;
            a[count] = start;
            b[count] = kept;
            c[count] = 0;
            out[count] = 2 * variables;
            variables++;
            count++;
            return out[count - 1];
        }
    }

    /** Makes words of TERMS, gates of words, and clauses of gates. */
    private static final class Encoder {
        private static final int WIDEST = 160;
        private static final int NEEDED = -2;

        private final Terms terms;
        private final Sat sat;
        private final Words words = new Words();
        private final Lower lower;
        private final Net net;
        /** The literals of all words, the lowest bit of each first. */
        private int[] bits = new int[1024];
        private int[] first = new int[512];
        private int top;
        /** How many words have gates, how many gates have clauses, how many facts are stated. */
        private int blasted;
        private int emitted;
        private int stated;
        private int[] row = new int[WIDEST];
        private final int[] rest = new int[WIDEST];
        /** The word that is made now: where its bits and those of its parts are, and how many. */
        private int at;
        private int x;
        private int y;
        private int width;
        private int widthX;
        private int widthY;
        private boolean isFull;

        Encoder(Terms terms, Sat sat) {
            this.terms = terms;
            this.sat = sat;
            lower = new Lower(terms, words);
            net = new Net(sat);
        }

        void clear() {
            words.clear();
            lower.clear();
            net.clear();
            top = 0;
            blasted = 0;
            emitted = 0;
            stated = 0;
            isFull = false;
        }

        /** Something could not be encoded, so that no answer can be trusted. */
        boolean isBroken() {
            return isFull || words.isShort || net.isShort;
        }

        int bit(int word, int k) {
            return bits[first[word] + k];
        }

        int wordWidth(int word) {
            return words.width[word];
        }

        /** The word of a TERM, which the clauses know of then. */
        int encode(int t) {
            if (terms.word[t] >= 0) {
                return terms.word[t];
            }
            sat.rest();
            for (int k = findNeeded(t); k <= t; k++) {
                if (terms.word[k] == NEEDED) {
                    lower.makeRoom(k);
                    int op = terms.op[k];
                    int n = terms.size[k];
                    if (op == FUNCTION) {
                        terms.word[k] = lower.symbolWord(k);
                    } else if (n == 0) {
                        terms.word[k] = lower.leafWord(k);
                    } else if (op < CONCAT) {
                        terms.word[k] = lower.coreWord(k);
                    } else if (op >= EXTRACT && op <= ROTATE_RIGHT) {
                        terms.word[k] = lower.shapeWord(k);
                    } else if (op < FP) {
                        terms.word[k] = lower.bitsWord(k);
                    } else if (terms.sort[terms.part(k, 0)] == MODE_SORT) {
                        terms.word[k] = lower.roundedWord(k);
                    } else {
                        terms.word[k] = lower.exactWord(k);
                    }
                }
            }
            for (int n = blasted; n < words.count; n++) {
                lower.relate(n);
            }
            for (int n = blasted; n < words.count; n++) {
                blast(n);
            }
            blasted = words.count;
            sat.grow(net.variables);
            for (int g = emitted; g < net.count; g++) {
                emit(g);
            }
            emitted = net.count;
            for (int k = stated; k < words.facts; k++) {
                row[0] = bit(words.fact[k], 0);
                isFull |= !sat.add(row, 1);
            }
            stated = words.facts;
            sat.settle();
            return terms.word[t];
        }

        /** The literal is true from now on. */
        void state(int literal) {
            sat.rest();
            row[0] = literal;
            isFull |= !sat.add(row, 1);
            sat.settle();
        }

        /** Marks the TERMS that are to be encoded before this one; answers the first of them. */
        private int findNeeded(int t) {
            int low = t;
            terms.word[t] = NEEDED;
            for (int k = t; k >= low; k--) {
                for (int m = 0; terms.word[k] == NEEDED && m < terms.size[k]; m++) {
                    int part = terms.part(k, m);
                    if (terms.word[part] == -1) {
                        terms.word[part] = NEEDED;
                        low = Math.min(low, part);
                    }
                }
            }
            return low;
        }

        /** The clauses of a gate. */
        private void emit(int g) {
            int o = net.out[g];
            int a = net.a[g];
            int b = net.b[g];
            int c = net.c[g];
            switch (net.kind[g]) {
                case Net.AND:
                    say(o ^ 1, a, Net.FALSE, Net.FALSE);
                    say(o ^ 1, b, Net.FALSE, Net.FALSE);
                    say(o, a ^ 1, b ^ 1, Net.FALSE);
                    break;
                case Net.XOR:
                    for (int k = 0; k < 4; k++) {
                        say(a ^ k & 1, b ^ k >> 1, o ^ 1 ^ (k ^ k >> 1) & 1, Net.FALSE);
                    }
                    break;
                case Net.MUX:
                    for (int k = 0; k < 2; k++) {
                        say(a ^ 1, b ^ 1 ^ k, o ^ k, Net.FALSE);
                        say(a, c ^ 1 ^ k, o ^ k, Net.FALSE);
                        say(b ^ 1 ^ k, c ^ 1 ^ k, o ^ k, Net.FALSE);
                    }
                    break;
                case Net.MAJORITY:
                    for (int k = 0; k < 2; k++) {
                        say(a ^ 1 ^ k, b ^ 1 ^ k, o ^ k, Net.FALSE);
                        say(a ^ 1 ^ k, c ^ 1 ^ k, o ^ k, Net.FALSE);
                        say(b ^ 1 ^ k, c ^ 1 ^ k, o ^ k, Net.FALSE);
                    }
                    break;
                case Net.PARITY:
                    for (int k = 0; k < 8; k++) {
                        say(a ^ k & 1, b ^ k >> 1 & 1, c ^ k >> 2, o ^ 1 ^ (k ^ k >> 1 ^ k >> 2) & 1);
                    }
                    break;
                default:
                    emitAll(o, a, b);
                    break;
            }
        }

        private void say(int a, int b, int c, int d) {
            row[0] = a;
            row[1] = b;
            row[2] = c;
            row[3] = d;
            isFull |= !sat.add(row, 4);
        }

        /** The clauses of a gate that is true if its n literals from start on are. */
        private void emitAll(int o, int start, int n) {
            row = roomFor(row, n + 1);
            for (int k = 0; k < n; k++) {
                row[0] = o ^ 1;
                row[1] = net.many[start + k];
                isFull |= !sat.add(row, 2);
            }
            row[0] = o;
            for (int k = 0; k < n; k++) {
                row[k + 1] = net.many[start + k] ^ 1;
            }
            isFull |= !sat.add(row, n + 1);
        }

        /** Room for the next word's bits and gates, and where its parts are. */
        private void aim(int n, int op) {
            width = words.width[n];
            bits = roomFor(bits, top + width);
            first = roomFor(first, n + 1);
            first[n] = top;
            at = top;
            boolean hasParts = op > Words.FREE;
            boolean hasTwo = op >= Words.AND && op <= Words.JOIN || op >= Words.LEFT && op <= Words.STICKY_RIGHT;
            x = hasParts ? first[words.a[n]] : 0;
            widthX = hasParts ? words.width[words.a[n]] : width;
            y = hasTwo ? first[words.b[n]] : 0;
            widthY = hasTwo ? words.width[words.b[n]] : 0;
            boolean isSquare = op == Words.PRODUCT || op == Words.RATIO || op == Words.ROOT;
            net.makeRoom(64 + (isSquare ? 2 * widthX * widthX : 16 * Math.max(width, widthX)));
            top += width;
        }

        /** A word gets its bits. */
        private void blast(int n) {
            int op = words.op[n];
            aim(n, op);
            switch (op) {
                case Words.SUM:
                    add(bits[first[words.c[n]]]);
                    break;
                case Words.PRODUCT:
                    multiply();
                    break;
                case Words.RATIO:
                    divide();
                    break;
                case Words.EQUAL:
                    compare();
                    break;
                case Words.LESS:
                    order();
                    break;
                case Words.LEFT:
                case Words.RIGHT:
                case Words.SIGNED_RIGHT:
                    shift(op);
                    break;
                case Words.STICKY_RIGHT:
                    stickyShift();
                    break;
                case Words.NORMAL:
                    normalise();
                    break;
                case Words.ROOT:
                    root();
                    break;
                case Words.TOP:
                    cutOff();
                    break;
                default:
                    for (int k = 0; k < width; k++) {
                        bits[at + k] = simpleBit(op, n, k);
                    }
                    break;
            }
        }

        private int simpleBit(int op, int n, int k) {
            switch (op) {
                case Words.NUMBER:
                    int half = k < 32 ? words.a[n] : words.b[n];
                    return (half >>> (k & 31) & 1) == 1 ? Net.TRUE : Net.FALSE;
                case Words.FREE:
                    return net.free();
                case Words.NOT:
                    return bits[x + k] ^ 1;
                case Words.AND:
                    return net.and(bits[x + k], bits[y + k]);
                case Words.OR:
                    return net.or(bits[x + k], bits[y + k]);
                case Words.XOR:
                    return net.xor(bits[x + k], bits[y + k]);
                case Words.ITE:
                    return net.mux(bits[first[words.c[n]]], bits[x + k], bits[y + k]);
                case Words.JOIN:
                    return k < widthY ? bits[y + k] : bits[x + k - widthY];
                case Words.PART:
                    return bits[x + words.b[n] + k];
                default:
                    return bits[x + Math.min(k, widthX - 1)];
            }
        }

        private void add(int carry) {
            for (int k = 0; k < width; k++) {
                int p = bits[x + k];
                int q = bits[y + k];
                bits[at + k] = net.parity(p, q, carry);
                carry = k + 1 < width ? net.majority(p, q, carry) : Net.FALSE;
            }
        }

        private int constants(int start) {
            int sum = 0;
            for (int k = 0; k < width; k++) {
                sum += bits[start + k] <= Net.FALSE ? 1 : 0;
            }
            return sum;
        }

        /**
         * Row by row; the part of which more bits are known tells which rows there are. A number has digits 1, 0 and -1,
         * so that few are not 0; in a square each product of two bits stands for both of its places.
         */
        private void multiply() {
            int rows = x;
            int line = y;
            if (constants(y) > constants(x)) {
                rows = y;
                line = x;
            }
            boolean isNumber = constants(rows) == width;
            boolean isSquare = !isNumber && x == y;
            int over = 0;
            Arrays.fill(bits, at, at + width, Net.FALSE);
            for (int r = 0; r < width; r++) {
                int by = bits[rows + r];
                int flip = 0;
                if (isNumber) {
                    int digit = over + (by ^ 1);
                    flip = digit == 1 && r + 1 < width && bits[rows + r + 1] == Net.TRUE ? 1 : 0;
                    over = digit > 1 ? 1 : flip;
                    by = digit == 1 ? Net.TRUE : Net.FALSE;
                }
                int carry = Net.FALSE ^ flip;
                for (int k = isSquare ? 2 * r : r; k < width && by != Net.FALSE; k++) {
                    int p = isSquare ? squareBit(line, r, k) : net.and(by, bits[line + k - r] ^ flip);
                    int q = bits[at + k];
                    bits[at + k] = net.parity(p, q, carry);
                    carry = k + 1 < width ? net.majority(p, q, carry) : Net.FALSE;
                }
            }
        }

        private int squareBit(int line, int r, int k) {
            if (k <= 2 * r + 1) {
                return k == 2 * r ? bits[line + r] : Net.FALSE;
            }
            return net.and(bits[line + r], bits[line + k - r - 1]);
        }

        /** As on paper, bit by bit; the rest has no more bits than have been taken down. */
        private void divide() {
            int w = widthX;
            int above = Net.TRUE;
            for (int k = w - 1; k >= 0; k--) {
                row[k] = above;
                above = net.and(above, bits[y + k] ^ 1);
            }
            for (int step = 0; step < w; step++) {
                for (int k = step; k > 0; k--) {
                    rest[k] = rest[k - 1];
                }
                rest[0] = bits[x + w - 1 - step];
                int borrow = Net.FALSE;
                for (int k = 0; k <= step; k++) {
                    borrow = net.majority(rest[k] ^ 1, bits[y + k], borrow);
                }
                int fits = net.and(row[step], borrow ^ 1);
                bits[at + w - 1 - step] = fits;
                borrow = Net.FALSE;
                for (int k = 0; k <= step && fits != Net.FALSE; k++) {
                    int less = net.parity(rest[k], bits[y + k], borrow);
                    borrow = net.majority(rest[k] ^ 1, bits[y + k], borrow);
                    rest[k] = net.mux(fits, less, rest[k]);
                }
            }
            System.arraycopy(rest, 0, bits, at + w, w);
        }

        private void compare() {
            for (int k = 0; k < widthX; k++) {
                row[k] = net.xor(bits[x + k], bits[y + k]) ^ 1;
            }
            bits[at] = net.all(row, widthX);
        }

        private void order() {
            int borrow = Net.FALSE;
            for (int k = 0; k < widthX; k++) {
                borrow = net.majority(bits[x + k] ^ 1, bits[y + k], borrow);
            }
            bits[at] = borrow;
        }

        private void shift(int op) {
            int fill = op == Words.SIGNED_RIGHT ? bits[x + width - 1] : Net.FALSE;
            System.arraycopy(bits, x, bits, at, width);
            int far = Net.FALSE;
            for (int s = 0; s < widthY; s++) {
                int by = s < 7 ? 1 << s : 128;
                if (by >= width) {
                    far = net.or(far, bits[y + s]);
                    continue;
                }
                for (int i = 0; i < width; i++) {
                    int k = op == Words.LEFT ? width - 1 - i : i;
                    int from = op == Words.LEFT ? k - by : k + by;
                    int other = from >= 0 && from < width ? bits[at + from] : fill;
                    bits[at + k] = net.mux(bits[y + s], other, bits[at + k]);
                }
            }
            for (int k = 0; k < width; k++) {
                bits[at + k] = net.mux(far, fill, bits[at + k]);
            }
        }

        private void stickyShift() {
            System.arraycopy(bits, x, bits, at, width);
            int lost = Net.FALSE;
            int far = Net.FALSE;
            for (int s = 0; s < widthY; s++) {
                int by = s < 7 ? 1 << s : 128;
                if (by >= width) {
                    far = net.or(far, bits[y + s]);
                    continue;
                }
                int any = Net.FALSE;
                for (int k = 0; k < by; k++) {
                    any = net.or(any, bits[at + k]);
                }
                lost = net.or(lost, net.and(any, bits[y + s]));
                for (int k = 0; k < width; k++) {
                    int other = k + by < width ? bits[at + k + by] : Net.FALSE;
                    bits[at + k] = net.mux(bits[y + s], other, bits[at + k]);
                }
            }
            int all = Net.FALSE;
            for (int k = 0; k < width; k++) {
                all = net.or(all, bits[at + k]);
                bits[at + k] = net.and(bits[at + k], far ^ 1);
            }
            bits[at] = net.or(bits[at], net.or(lost, net.and(all, far)));
        }

        private void normalise() {
            System.arraycopy(bits, x, bits, at, widthX);
            for (int s = width - widthX - 1; s >= 0; s--) {
                int by = 1 << s;
                int none = Net.TRUE;
                for (int k = 0; k < by && k < widthX; k++) {
                    none = net.and(none, bits[at + widthX - 1 - k] ^ 1);
                }
                bits[at + widthX + s] = none;
                for (int k = widthX - 1; k >= 0; k--) {
                    int other = k >= by ? bits[at + k - by] : Net.FALSE;
                    bits[at + k] = net.mux(none, other, bits[at + k]);
                }
            }
        }

        /** As on paper, two bits of the square for each of the root; row is what is tried. */
        private void root() {
            int steps = width - 1;
            Arrays.fill(rest, 0, steps + 3, Net.FALSE);
            for (int step = 0; step < steps; step++) {
                for (int k = step + 2; k > 1; k--) {
                    rest[k] = rest[k - 2];
                }
                rest[1] = bits[x + widthX - 1 - 2 * step];
                rest[0] = bits[x + widthX - 2 - 2 * step];
                row[0] = Net.TRUE;
                row[1] = Net.FALSE;
                for (int k = 0; k < step; k++) {
                    row[k + 2] = bits[at + steps - step + k];
                }
                row[step + 2] = Net.FALSE;
                int borrow = Net.FALSE;
                for (int k = 0; k <= step + 2; k++) {
                    borrow = net.majority(rest[k] ^ 1, row[k], borrow);
                }
                int fits = borrow ^ 1;
                bits[at + steps - 1 - step] = fits;
                borrow = Net.FALSE;
                for (int k = 0; k <= step + 2; k++) {
                    int less = net.parity(rest[k], row[k], borrow);
                    borrow = net.majority(rest[k] ^ 1, row[k], borrow);
                    rest[k] = net.mux(fits, less, rest[k]);
                }
            }
            int any = Net.FALSE;
            for (int k = 0; k < steps + 2; k++) {
                any = net.or(any, rest[k]);
            }
            bits[at + steps] = any;
        }

        private void cutOff() {
            for (int k = 1; k < width; k++) {
                int from = widthX - width + k;
                bits[at + k] = from >= 0 ? bits[x + from] : Net.FALSE;
            }
            int any = Net.FALSE;
            for (int k = 0; k <= widthX - width; k++) {
                any = net.or(any, bits[x + k]);
            }
            bits[at] = any;
        }
    }

    /** The variables that may be chosen, the one that was in most conflicts of late first. */
    private static final class Choice {
        private static final long LIGHTEST = 1L << 20;
        private static final long HEAVIEST = 1L << 60;
        private static final int FADE = 40;

        private long[] weight = new long[512];
        private int[] heap = new int[512];
        /** Where in the heap a variable is, -1 if nowhere. */
        private int[] place = new int[512];
        private int size;
        private int known;
        private long step = LIGHTEST;

        void clear() {
            size = 0;
            known = 0;
            step = LIGHTEST;
        }

        void grow(int variables) {
            if (variables > weight.length) {
                weight = Arrays.copyOf(weight, Math.max(variables, 2 * weight.length));
            }
            heap = roomFor(heap, variables);
            place = roomFor(place, variables);
            for (int v = known; v < variables; v++) {
                weight[v] = Math.max(0, LIGHTEST - v);
                place[v] = -1;
                insert(v);
            }
            known = Math.max(known, variables);
        }

        void insert(int v) {
            if (place[v] < 0) {
                place[v] = size;
                heap[size] = v;
                size++;
                rise(v);
            }
        }

        void bump(int v) {
            weight[v] += step;
            if (weight[v] > HEAVIEST) {
                fade();
            }
            if (place[v] >= 0) {
                rise(v);
            }
        }

        void decay() {
            step += step >> 5;
            if (step > HEAVIEST) {
                fade();
            }
        }

        private void fade() {
            for (int v = 0; v < known; v++) {
                weight[v] >>= FADE;
            }
            step = Math.max(1, step >> FADE);
        }

        private void rise(int v) {
            int k = place[v];
            while (k > 0) {
                int up = k - 1 >> 1;
                int other = heap[up];
                if (weight[other] >= weight[v]) {
                    break;
                }
                heap[k] = other;
                place[other] = k;
                k = up;
            }
            heap[k] = v;
            place[v] = k;
        }

        /** The first one leaves the heap; -1 if there is none. */
        int take() {
            if (size == 0) {
                return -1;
            }
            int first = heap[0];
            place[first] = -1;
            size--;
            if (size > 0) {
                sink(heap[size]);
            }
            return first;
        }

        private void sink(int v) {
            int k = 0;
            int down = 1;
            while (down < size) {
                if (down + 1 < size && weight[heap[down + 1]] > weight[heap[down]]) {
                    down++;
                }
                int other = heap[down];
                if (weight[other] <= weight[v]) {
                    break;
                }
                heap[k] = other;
                place[other] = k;
                k = down;
                down = 2 * k + 1;
            }
            heap[k] = v;
            place[v] = k;
        }
    }

    /** All clauses in one row, lists of those that watch a literal, and the watch over those that are learned. */
    private static final class Clauses {
        /** A clause is its size, what it is worth, and its literals, the first two of which are watched. */
        static final int HEAD = 2;
        private static final int NONE = -1;
        private static final int CONFLICT = -2;
        static final int LIMIT = 1 << 20;
        private static final int POOL_LIMIT = 1 << 16;
        private static final int MOST_UNUSED = 1 << 18;
        /** What a learned clause is worth: its rank, and above it how many times it is spared; 0 if it was not learned. */
        private static final int RANK = 63;
        private static final int SPARED = 64;
        private static final int BEST_RANK = 2;
        private static final int GOOD_RANK = 6;
        private static final int LONGEST = 63;
        private static final int FIRST_FRESH = 1000;
        private static final int MORE_FRESH = 300;
        private static final int MOST_FRESH = 30000;

        int[] row = new int[8192];
        int top;
        /** The lists, each a row of pairs: a literal that makes the clause true if it is, and the clause. */
        int[] pool = new int[4096];
        private int poolTop;
        private int poolLimit = POOL_LIMIT;
        /** By literal: where its list begins, how much of it is used, and how much there is. */
        int[] first = new int[1024];
        int[] count = new int[1024];
        private int[] room = new int[1024];
        /** Clauses that were learned since some were left out the last time, and how many may be. */
        private int fresh;
        private int freshLimit = FIRST_FRESH;
        /** The ranks of clauses that were learned of late, and of all, in parts of a million. */
        private long recent;
        private long usual;
        private int ranked;
        /** Clauses that were learned and do not follow from those that they name. */
        int faults;
        private final int[] worth = new int[(RANK + 1) * (LONGEST + 1)];
        private int[] named = new int[64];
        int names;
        /** By literal: the latest check in which it was found false. */
        private int[] isFalse = new int[1024];
        private int check;

        void clear() {
            top = 0;
            poolTop = 0;
            poolLimit = POOL_LIMIT;
            fresh = 0;
            freshLimit = FIRST_FRESH;
            recent = 0;
            usual = 0;
            ranked = 0;
        }

        boolean isCrowded() {
            return fresh >= freshLimit || fresh > 0 && top > LIMIT - LIMIT / 8;
        }

        /** Lists that have moved have left much room unused. */
        boolean isScattered() {
            return poolTop > poolLimit;
        }

        /** What is learned of late is worse than usual, so that the search had better begin anew. */
        boolean isStuck() {
            return 100 * recent > 110 * usual;
        }

        private void noteRank(int rank) {
            fresh++;
            ranked = Math.min(ranked + 1, 4096);
            recent += (1000000L * rank - recent) / 32;
            usual += (1000000L * rank - usual) / ranked;
        }

        void grow(int from, int literals) {
            first = roomFor(first, literals);
            count = roomFor(count, literals);
            room = roomFor(room, literals);
            isFalse = roomFor(isFalse, literals);
            Arrays.fill(first, from, literals, 0);
            Arrays.fill(count, from, literals, 0);
            Arrays.fill(room, from, literals, 0);
        }

        /** A clause of two literals or more, rank 0 if it was not learned; NONE if there is no room. */
        int store(int[] literals, int n, int rank) {
            int stop = top + HEAD + n;
            if (stop > row.length) {
                if (stop > LIMIT) {
                    return NONE;
                }
                row = Arrays.copyOf(row, Math.min(LIMIT, Math.max(stop, 2 * row.length)));
            }
            int ref = top;
            row[ref] = n;
            row[ref + 1] = 0;
            System.arraycopy(literals, 0, row, ref + HEAD, n);
            top = stop;
            if (rank > 0) {
                row[ref + 1] = Math.min(RANK, rank) + SPARED;
                noteRank(rank);
            }
            watch(row[ref + HEAD], row[ref + HEAD + 1], ref);
            watch(row[ref + HEAD + 1], row[ref + HEAD], ref);
            return ref;
        }

        /** The clause comes to the list of the literal x. */
        void watch(int x, int other, int ref) {
            if (count[x] + 2 > room[x]) {
                int more = Math.max(8, 2 * room[x]);
                if (poolTop + more > pool.length) {
                    pool = Arrays.copyOf(pool, Math.max(poolTop + more, 2 * pool.length));
                }
                System.arraycopy(pool, first[x], pool, poolTop, count[x]);
                first[x] = poolTop;
                room[x] = more;
                poolTop += more;
            }
            int at = first[x] + count[x];
            pool[at] = other;
            pool[at + 1] = ref;
            count[x] += 2;
        }

        boolean isRanked(int ref) {
            return (row[ref + 1] & RANK) > BEST_RANK;
        }

        /** A learned clause has been of use, and its rank is this one now. */
        void praise(int ref, int rank) {
            int now = Math.min(rank, row[ref + 1] & RANK);
            row[ref + 1] = now + (now <= GOOD_RANK ? 2 * SPARED : SPARED);
        }

        private int worthOf(int ref) {
            return (row[ref + 1] & RANK) * (LONGEST + 1) + Math.min(LONGEST, row[ref]);
        }

        /** A learned clause that may be left out: none of the best, and of no use of late. */
        private boolean isSpare(int ref) {
            return row[ref + 1] > BEST_RANK && row[ref + 1] < SPARED;
        }

        /** Leaves out most of what was learned and is of no use, and all that is settled at level 0, where this is called. */
        void reduce(int[] value, int literals) {
            freshLimit = Math.min(freshLimit + MORE_FRESH, MOST_FRESH);
            fresh = 0;
            Arrays.fill(worth, 0);
            int spare = 0;
            for (int ref = 0; ref < top; ref += HEAD + row[ref]) {
                if (isSpare(ref)) {
                    worth[worthOf(ref)]++;
                    spare++;
                }
            }
            int worst = worth.length - 1;
            int more = spare - spare / 4;
            while (worst > 0 && worth[worst] <= more) {
                more -= worth[worst];
                worst--;
            }
            leaveOut(worst, false, value, literals);
            makeRoom(LIMIT - LIMIT / 4, value, literals);
        }

        /** If more room is used than this, the worst of all that was learned is left out until half of it is free. */
        void makeRoom(int most, int[] value, int literals) {
            if (top <= most) {
                return;
            }
            Arrays.fill(worth, 0);
            for (int ref = 0; ref < top; ref += HEAD + row[ref]) {
                if (row[ref + 1] > 0) {
                    worth[worthOf(ref)] += HEAD + row[ref];
                }
            }
            int worst = worth.length - 1;
            int more = top - LIMIT / 2;
            while (worst >= 0 && more > 0) {
                more -= worth[worst];
                worst--;
            }
            leaveOut(worst, true, value, literals);
        }

        /** Leaves out what is worse than this of what is spare, or of all that was learned. */
        private void leaveOut(int worst, boolean isOfAll, int[] value, int literals) {
            int to = 0;
            int size;
            for (int ref = 0; ref < top; ref += HEAD + size) {
                size = row[ref];
                boolean isOut = (isOfAll ? row[ref + 1] > 0 : isSpare(ref)) && worthOf(ref) > worst;
                if (row[ref + 1] >= SPARED) {
                    row[ref + 1] -= SPARED;
                }
                to = isOut ? to : move(ref, to, value);
            }
            top = to;
            linkAll(literals);
        }

        /** Makes all lists anew, without the room that is unused. */
        void linkAll(int literals) {
            Arrays.fill(count, 0, literals, 0);
            for (int ref = 0; ref < top; ref += HEAD + row[ref]) {
                count[row[ref + HEAD]] += 2;
                count[row[ref + HEAD + 1]] += 2;
            }
            poolTop = 0;
            for (int x = 0; x < literals; x++) {
                first[x] = poolTop;
                room[x] = count[x] + 4;
                poolTop += room[x];
                count[x] = 0;
            }
            if (poolTop > pool.length) {
                pool = Arrays.copyOf(pool, Math.max(poolTop, 2 * pool.length));
            }
            poolLimit = poolTop + Math.max(POOL_LIMIT, Math.min(2 * poolTop, MOST_UNUSED));
            for (int ref = 0; ref < top; ref += HEAD + row[ref]) {
                for (int side = 0; side < 2; side++) {
                    int x = row[ref + HEAD + side];
                    int at = first[x] + count[x];
                    pool[at] = row[ref + HEAD + 1 - side];
                    pool[at + 1] = ref;
                    count[x] += 2;
                }
            }
        }

        /** Writes a clause anew further down, without literals that are false; answers where the next one goes. */
        private int move(int ref, int to, int[] value) {
            int stop = ref + HEAD + row[ref];
            int worth = row[ref + 1];
            for (int k = ref + HEAD; k < stop; k++) {
                if (value[row[k]] > 0) {
                    return to;
                }
            }
            int next = to + HEAD;
            for (int k = ref + HEAD; k < stop; k++) {
                if (value[row[k]] == 0) {
                    row[next] = row[k];
                    next++;
                }
            }
            row[to] = next - to - HEAD;
            row[to + 1] = worth;
            return row[to] < 2 ? to : next;
        }

        /** The next clause to be learned names none yet. */
        void begin() {
            names = 0;
        }

        void name(int ref) {
            if (names >= named.length) {
                named = Arrays.copyOf(named, 2 * names);
            }
            named[names] = ref;
            names++;
        }

        /** The clause of n literals was learned: does it follow by going through those that it names? */
        void look(int[] literals, int n, int[] value, int[] level) {
            check++;
            for (int k = 0; k < n; k++) {
                isFalse[literals[k]] = check;
            }
            boolean goesOn = true;
            for (int round = 0; goesOn && round <= names; round++) {
                goesOn = false;
                for (int k = names - 1; k >= 0; k--) {
                    int x = lastLiteral(named[k], value, level);
                    if (x == CONFLICT) {
                        return;
                    }
                    if (x >= 0 && isFalse[x ^ 1] != check) {
                        isFalse[x ^ 1] = check;
                        goesOn = true;
                    }
                }
            }
            faults++;
        }

        /** The only literal of a clause that is not false, CONFLICT if there is none, NONE if there are more. */
        private int lastLiteral(int ref, int[] value, int[] level) {
            int left = CONFLICT;
            int stop = ref + HEAD + row[ref];
            for (int k = ref + HEAD; k < stop; k++) {
                int x = row[k];
                if (isFalse[x] != check && (value[x] >= 0 || level[x >> 1] > 0)) {
                    if (left != CONFLICT) {
                        return NONE;
                    }
                    left = x;
                }
            }
            return left;
        }

        /** All clauses that were not learned are true in the model. */
        boolean areTrue(int[] model) {
            for (int ref = 0; ref < top; ref += HEAD + row[ref]) {
                boolean isTrue = row[ref + 1] > 0;
                for (int k = 0; !isTrue && k < row[ref]; k++) {
                    int x = row[ref + HEAD + k];
                    isTrue = (model[x >> 1] ^ x & 1) == 1;
                }
                if (!isTrue) {
                    return false;
                }
            }
            return true;
        }
    }

    /** Finds values of variables that make all clauses true, by learning a clause from each conflict. */
    private static final class Sat {
        private static final int NONE = -1;
        private static final int FAILED = -2;
        private static final long STEP_LIMIT = 1L << 60;
        private static final int RESTART = 10;

        final Clauses clauses = new Clauses();
        int variables;
        /** By literal: 1 true, -1 false, 0 open. */
        int[] value = new int[1024];
        int[] level = new int[512];
        /** The literals under which there was no answer but no, when there was none. */
        int[] core = new int[64];
        int coreSize;
        private final Choice choice = new Choice();
        private int[] reason = new int[512];
        private int[] trail = new int[512];
        private int[] limit = new int[512];
        private int trailTop;
        private int levels;
        private int swept;
        private int[] phase = new int[512];
        private int[] seen = new int[512];
        private int[] mark = new int[512];
        private int marks;
        private int[] clause = new int[512];
        private int[] model = new int[512];
        private int[] assumed = new int[64];
        private int held;
        private boolean isDead;
        /** The variables that were passed on the way back from literals that are left out. */
        private int[] trace = new int[512];

        Sat() {
            grow(1);
        }

        void clear() {
            clauses.clear();
            choice.clear();
            variables = 0;
            coreSize = 0;
            trailTop = 0;
            levels = 0;
            swept = 0;
            held = 0;
            isDead = false;
            grow(1);
        }

        /** Variable 0 is true; the others are free at first. */
        void grow(int n) {
            if (n <= variables) {
                return;
            }
            value = roomFor(value, 2 * n);
            level = roomFor(level, n);
            reason = roomFor(reason, n);
            trail = roomFor(trail, n);
            phase = roomFor(phase, n);
            seen = roomFor(seen, n);
            clause = roomFor(clause, n);
            trace = roomFor(trace, n);
            model = roomFor(model, n);
            clauses.grow(2 * variables, 2 * n);
            Arrays.fill(value, 2 * variables, 2 * n, 0);
            Arrays.fill(phase, variables, n, 1);
            Arrays.fill(seen, variables, n, 0);
            Arrays.fill(model, variables, n, 0);
            choice.grow(n);
            boolean isFirst = variables == 0;
            variables = n;
            if (isFirst) {
                set(0, NONE);
            }
        }

        private void set(int x, int why) {
            value[x] = 1;
            value[x ^ 1] = -1;
            level[x >> 1] = levels;
            reason[x >> 1] = why;
            trail[trailTop] = x;
            trailTop++;
        }

        /** Back to level 0, where clauses can be added. */
        void rest() {
            backTo(0);
            held = 0;
            if (!isDead) {
                clauses.makeRoom(Clauses.LIMIT / 2, value, 2 * variables);
            }
        }

        private void backTo(int n) {
            if (levels <= n) {
                return;
            }
            for (int k = trailTop - 1; k >= limit[n]; k--) {
                int x = trail[k];
                value[x] = 0;
                value[x ^ 1] = 0;
                phase[x >> 1] = x & 1;
                choice.insert(x >> 1);
            }
            trailTop = limit[n];
            swept = trailTop;
            levels = n;
        }

        /** A clause of the first n literals of a row, which is changed; false if there is no room. */
        boolean add(int[] row, int n) {
            if (isDead) {
                return true;
            }
            int kept = 0;
            for (int k = 0; k < n; k++) {
                int x = row[k];
                boolean isNew = value[x] == 0;
                if (value[x] > 0) {
                    return true;
                }
                for (int m = 0; isNew && m < kept; m++) {
                    if (row[m] == (x ^ 1)) {
                        return true;
                    }
                    isNew = row[m] != x;
                }
                if (isNew) {
                    row[kept] = x;
                    kept++;
                }
            }
            if (kept == 0) {
                isDead = true;
            } else if (kept == 1) {
                set(row[0], NONE);
            } else {
                return clauses.store(row, kept, 0) >= 0;
            }
            return true;
        }

        /** Draws what follows at level 0. */
        void settle() {
            if (!isDead && propagate() != NONE) {
                isDead = true;
            }
        }

        boolean isKnown(int x) {
            return value[x] != 0 && level[x >> 1] == 0;
        }

        boolean isTrue(int x) {
            return (model[x >> 1] ^ x & 1) == 1;
        }

        boolean isInCore(int x) {
            for (int k = 0; k < coreSize; k++) {
                if (core[k] == x) {
                    return true;
                }
            }
            return false;
        }

        /** The model makes true all clauses and the first n literals that were assumed. */
        boolean isModel(int n) {
            boolean isRight = clauses.areTrue(model);
            for (int k = 0; isRight && k < n; k++) {
                isRight = isTrue(assumed[k]);
            }
            return isRight;
        }

        /** The clause that has become false, or NONE. */
        private int propagate() {
            int conflict = NONE;
            for (int k = 0; k <= variables && swept < trailTop && conflict == NONE; k++) {
                conflict = sweep(trail[swept] ^ 1);
                swept++;
            }
            return conflict;
        }

        /** Goes through the clauses that watch a literal which is false now. */
        private int sweep(int p) {
            int[] row = clauses.row;
            int[] pool = clauses.pool;
            int[] values = value;
            int from = clauses.first[p];
            int stop = from + clauses.count[p];
            int to = from;
            int conflict = NONE;
            for (int k = from; k < stop; k += 2) {
                int hint = pool[k];
                int ref = pool[k + 1];
                pool[to] = hint;
                pool[to + 1] = ref;
                to += 2;
                if (conflict != NONE || values[hint] > 0) {
                    continue;
                }
                int at = ref + Clauses.HEAD;
                int other = row[at] ^ row[at + 1] ^ p;
                int end = at + row[ref];
                int m = at + 2;
                if (values[other] > 0) {
                    m = end;
                }
                while (m < end && values[row[m]] < 0) {
                    m++;
                }
                if (m < end) {
                    int x = row[m];
                    row[at] = other;
                    row[at + 1] = x;
                    row[m] = p;
                    to -= 2;
                    clauses.watch(x, other, ref);
                    pool = clauses.pool;
                } else if (values[other] < 0) {
                    conflict = ref;
                } else {
                    pool[to - 2] = other;
                    if (values[other] == 0) {
                        set(other, ref);
                    }
                }
            }
            clauses.count[p] = to - from;
            return conflict;
        }

        /** The literal at place k is to be true in the next search. */
        void assume(int k, int x) {
            assumed = roomFor(assumed, k + 1);
            if (k >= held || assumed[k] != x) {
                backTo(k);
                held = Math.min(held, k);
            }
            assumed[k] = x;
        }

        /** Looks for a model in which the first n literals that were assumed are true. */
        boolean solve(int n) {
            if (n < held) {
                backTo(n);
            }
            held = n;
            limit = roomFor(limit, n + variables + 2);
            mark = roomFor(mark, n + variables + 2);
            int since = 0;
            for (long step = 0; step < STEP_LIMIT && !isDead; step++) {
                int conflict = propagate();
                if (conflict != NONE) {
                    since++;
                    if (levels == 0) {
                        isDead = true;
                    } else {
                        learn(conflict);
                    }
                } else if (since >= RESTART && clauses.isStuck()) {
                    since = 0;
                    backTo(n);
                } else if (clauses.isCrowded()) {
                    backTo(0);
                    clauses.reduce(value, 2 * variables);
                } else if (clauses.isScattered()) {
                    clauses.linkAll(2 * variables);
                } else {
                    int x = nextLiteral(n);
                    if (x == NONE) {
                        keepModel();
                        return true;
                    }
                    if (x == FAILED) {
                        return false;
                    }
                }
            }
            coreSize = 0;
            return false;
        }

        private void keepModel() {
            for (int v = 0; v < variables; v++) {
                model[v] = value[2 * v] > 0 ? 1 : 0;
            }
        }

        /** Decides the next literal, those that are assumed first; NONE if all have values, FAILED if one cannot be assumed. */
        private int nextLiteral(int n) {
            int x = NONE;
            if (levels < n) {
                x = assumed[levels];
                if (value[x] < 0) {
                    findCore(x);
                    return FAILED;
                }
            } else {
                int v = choice.take();
                for (int k = 0; k <= variables && v >= 0 && value[2 * v] != 0; k++) {
                    v = choice.take();
                }
                if (v < 0) {
                    return NONE;
                }
                x = 2 * v + phase[v];
            }
            limit[levels] = trailTop;
            levels++;
            if (value[x] == 0) {
                set(x, NONE);
            }
            return x;
        }

        /** Which literals that were assumed make this one false; it is in the core, too. */
        private void findCore(int x) {
            core = roomFor(core, levels + 2);
            core[0] = x;
            coreSize = 1;
            if (levels == 0 || level[x >> 1] == 0) {
                return;
            }
            seen[x >> 1] = 1;
            for (int k = trailTop - 1; k >= limit[0]; k--) {
                int v = trail[k] >> 1;
                if (seen[v] != 0) {
                    seen[v] = 0;
                    if (reason[v] == NONE) {
                        core[coreSize] = trail[k];
                        coreSize++;
                    } else {
                        lookInto(reason[v]);
                    }
                }
            }
        }

        private void lookInto(int ref) {
            int stop = ref + Clauses.HEAD + clauses.row[ref];
            for (int k = ref + Clauses.HEAD; k < stop; k++) {
                int v = clauses.row[k] >> 1;
                if (level[v] > 0 && value[clauses.row[k]] < 0) {
                    seen[v] = 1;
                }
            }
        }

        /** A clause is learned from the conflict, and the search goes on from where it would have been of use. */
        private void learn(int conflict) {
            int n = shorten(analyse(conflict));
            clauses.look(clause, n, value, level);
            int rank = rankOf(clause, 0, n);
            int back = 0;
            for (int k = 1; k < n; k++) {
                int at = level[clause[k] >> 1];
                if (at > back) {
                    back = at;
                    int x = clause[k];
                    clause[k] = clause[1];
                    clause[1] = x;
                }
            }
            backTo(back);
            choice.decay();
            int ref = n == 1 ? NONE : clauses.store(clause, n, rank);
            if (n == 1 || ref != NONE) {
                set(clause[0], ref);
            }
        }

        /** How many levels the literals of a clause are of; what is assumed holds together, so that it counts as one. */
        private int rankOf(int[] row, int from, int to) {
            int rank = 0;
            marks++;
            for (int k = from; k < to; k++) {
                int at = level[row[k] >> 1];
                int group = at <= held ? 0 : at;
                if (mark[group] != marks) {
                    mark[group] = marks;
                    rank++;
                }
            }
            return rank;
        }

        /** The first clause, back from the conflict, with one literal of the present level; answers its size. */
        private int analyse(int conflict) {
            clauses.begin();
            int n = 1;
            int open = 0;
            int ref = conflict;
            for (int k = trailTop - 1; k >= 0; k--) {
                if (ref != NONE) {
                    clauses.name(ref);
                    int from = ref + Clauses.HEAD;
                    int stop = from + clauses.row[ref];
                    if (clauses.isRanked(ref)) {
                        clauses.praise(ref, rankOf(clauses.row, from, stop));
                    }
                    for (int m = from; m < stop; m++) {
                        int x = clauses.row[m];
                        int v = x >> 1;
                        if (value[x] < 0 && seen[v] == 0 && level[v] > 0) {
                            seen[v] = 1;
                            choice.bump(v);
                            if (level[v] == levels) {
                                open++;
                            } else {
                                clause[n] = x;
                                n++;
                            }
                        }
                    }
                    ref = NONE;
                }
                int v = trail[k] >> 1;
                if (seen[v] != 0) {
                    seen[v] = 0;
                    open--;
                    if (open == 0) {
                        clause[0] = trail[k] ^ 1;
                        return n;
                    }
                    ref = reason[v];
                }
            }
            return n;
        }

        /** Leaves out literals that follow from the others; answers how many stay. */
        private int shorten(int n) {
            marks++;
            for (int k = 1; k < n; k++) {
                mark[level[clause[k] >> 1]] = marks;
            }
            int stop = n;
            int traced = 0;
            for (int k = 1; k < stop; k++) {
                int x = clause[k];
                int more = reason[x >> 1] == NONE ? NONE : traceBack(x >> 1, traced);
                if (more != NONE) {
                    traced = more;
                    stop--;
                    clause[k] = clause[stop];
                    clause[stop] = x;
                    k--;
                }
            }
            for (int k = 1; k < n; k++) {
                seen[clause[k] >> 1] = 0;
            }
            for (int k = 0; k < traced; k++) {
                seen[trace[k]] = 0;
            }
            return stop;
        }

        /**
         * Goes back from a variable through all reasons, which are named, up to others of the clause; answers how many
         * variables the trace has then, NONE if the way ends elsewhere.
         */
        private int traceBack(int start, int traced) {
            int kept = clauses.names;
            int top = traced;
            int v = start;
            for (int next = traced; next <= top && next <= variables; next++) {
                int ref = reason[v];
                clauses.name(ref);
                int stop = ref + Clauses.HEAD + clauses.row[ref];
                for (int k = ref + Clauses.HEAD; k < stop; k++) {
                    int u = clauses.row[k] >> 1;
                    if (u == v || seen[u] != 0 || level[u] == 0) {
                        continue;
                    }
                    if (reason[u] == NONE || mark[level[u]] != marks) {
                        for (int m = traced; m < top; m++) {
                            seen[trace[m]] = 0;
                        }
                        clauses.names = kept;
                        return NONE;
                    }
                    seen[u] = 1;
                    trace[top] = u;
                    top++;
                }
                v = next < top ? trace[next] : v;
            }
            return top;
        }
    }

    /** What the COMMANDS do. */
    private static final class Session {
        static final int NO_MODE = 0;
        static final int SAT_MODE = 1;
        static final int UNSAT_MODE = 2;
        private static final int LEVEL_LIMIT = 1000;
        private static final int CLAIM_LIMIT = 30000;
        private static final int SORTS_LIMIT = 65536;
        /** What is known of an assertion: its TERM, its LEVEL, its NAME or -1, and some of the flags below. */
        private static final int CLAIM = 4;
        private static final int BARRED = 1;
        private static final int STATED = 2;
        private static final int LEFT_OUT = 4;

        final Names names = new Names();
        final Terms terms = new Terms();
        final Sat sat = new Sat();
        int level;
        int mode;
        int claims;
        int falseModels;
        int givenUp;
        private final Tape tape;
        private final Reader reader;
        private final Encoder encoder;
        private int[] claim = new int[CLAIM * 16];
        /** The EXPRESSIONS of the COMMAND, and how many there are. */
        private final int[] part = new int[6];
        private int parts;
        private int[] asked = new int[16];
        private int askedCount;
        private int[] supposed = new int[16];
        private int supposedCount;
        /** How many literals the search assumes; of a model that is given, its bits, too. */
        private int assumed;
        private int model;
        private int[] pinned = new int[256];

        Session(Tape tape) {
            this.tape = tape;
            reader = new Reader(tape, names, terms);
            encoder = new Encoder(terms, sat);
        }

        /** The word that the COMMAND begins with, or NO_COMMAND. */
        int open() {
            terms.keep();
            reader.unbind();
            parts = 0;
            if (tape.kind[0] != Tape.OPEN) {
                return NO_COMMAND;
            }
            for (int t = 1; t < tape.mate[0]; t = tape.after(t)) {
                if (parts < part.length) {
                    part[parts] = t;
                    parts++;
                }
            }
            return parts > 0 && tape.word[1] >= SET_LOGIC ? tape.word[1] : NO_COMMAND;
        }

        /** The COMMAND is done, or what it began is undone and the ERROR told. */
        void close(int result) {
            if (result >= 0) {
                return;
            }
            terms.restore();
            switch (result) {
                case NO_SORT:
                    tape.printError("sort");
                    break;
                case NO_NAME:
                    tape.printError("name");
                    break;
                case FULL:
                    tape.printError("full");
                    break;
                case NO_LEVEL:
                    tape.printError("level");
                    break;
                case NO_MODEL:
                    tape.printError("model");
                    break;
                case NO_VALUE:
                    tape.printError("value");
                    break;
                case NO_CORE:
                    tape.printError("core");
                    break;
                default:
                    tape.printError("command");
                    break;
            }
        }

        private boolean isPart(int k, int kind) {
            return k < parts && tape.kind[part[k]] == kind;
        }

        /** The COMMANDS without TERMS. */
        int simple(int command) {
            switch (command) {
                case SET_LOGIC:
                    return parts == 2 && isPart(1, Tape.SYMBOL) ? DONE : NO_COMMAND;
                case SET_OPTION:
                case SET_INFO:
                    return parts == 3 && isPart(1, Tape.KEYWORD) ? DONE : NO_COMMAND;
                case ECHO:
                    return echo();
                case RESET:
                    return reset();
                case DECLARE_SORT:
                    return declareSort();
                case DECLARE_CONST:
                    return declareConstant();
                case DECLARE_FUN:
                    return declareFunction();
                case PUSH:
                case POP:
                    return move(command);
                default:
                    return NO_COMMAND;
            }
        }

        private int echo() {
            if (parts != 2 || !isPart(1, Tape.STRING)) {
                return NO_COMMAND;
            }
            tape.printBytes(tape.bytes, tape.from[part[1]], tape.to[part[1]]);
            tape.put(10);
            return DONE;
        }

        private int reset() {
            if (parts != 1) {
                return NO_COMMAND;
            }
            names.clear();
            terms.clear();
            sat.clear();
            encoder.clear();
            claims = 0;
            level = 0;
            mode = NO_MODE;
            return DONE;
        }

        private int newNameFault(int token) {
            if (reader.isTaken(token)) {
                return NO_NAME;
            }
            return names.isFull(tape, token) ? FULL : DONE;
        }

        private int declareSort() {
            boolean isRight = parts == 3 && isPart(1, Tape.SYMBOL) && isPart(2, Tape.NUMERAL);
            if (!isRight || tape.numeral(part[2], 1) != 0) {
                return NO_COMMAND;
            }
            int fault = newNameFault(part[1]);
            if (fault < 0) {
                return fault;
            }
            int name = names.add(tape, part[1], Names.SORT, level, 0);
            names.sort[name] = OPEN_SORT + names.mark[name];
            mode = NO_MODE;
            return DONE;
        }

        private int declareConstant() {
            if (parts != 3 || !isPart(1, Tape.SYMBOL)) {
                return NO_COMMAND;
            }
            int sort = reader.sort(part[2]);
            int fault = sort < 0 ? sort : newNameFault(part[1]);
            if (fault < 0) {
                return fault;
            }
            names.add(tape, part[1], Names.DECLARED, level, sort);
            mode = NO_MODE;
            return DONE;
        }

        private int declareFunction() {
            if (parts != 4 || !isPart(1, Tape.SYMBOL) || !isPart(2, Tape.OPEN)) {
                return NO_COMMAND;
            }
            int first = names.sortsTop();
            int n = 0;
            for (int t = part[2] + 1; t < tape.mate[part[2]]; t = tape.after(t)) {
                int sort = reader.sort(t);
                if (sort < 0) {
                    return sort;
                }
                names.sorts = roomFor(names.sorts, first + n + 1);
                names.sorts[first + n] = sort;
                n++;
            }
            int sort = reader.sort(part[3]);
            int fault = sort < 0 ? sort : newNameFault(part[1]);
            if (fault < 0 || first + n > SORTS_LIMIT) {
                return fault < 0 ? fault : FULL;
            }
            int name = names.add(tape, part[1], Names.DECLARED, level, sort);
            names.arity[name] = n;
            names.first[name] = first;
            mode = NO_MODE;
            return DONE;
        }

        private int move(int command) {
            if (parts != 2 || !isPart(1, Tape.NUMERAL)) {
                return NO_COMMAND;
            }
            int n = tape.numeral(part[1], LEVEL_LIMIT);
            if (n > LEVEL_LIMIT) {
                return NO_COMMAND;
            }
            int to = command == PUSH ? level + n : level - n;
            if (to < 0 || to > LEVEL_LIMIT) {
                return NO_LEVEL;
            }
            level = to;
            names.cut(level);
            while (claims > 0 && claim[CLAIM * claims - CLAIM + 1] > level) {
                claims--;
            }
            mode = NO_MODE;
            return DONE;
        }

        /** define-fun. */
        int define() {
            if (parts != 5 || !isPart(1, Tape.SYMBOL) || !isPart(2, Tape.OPEN)) {
                return NO_COMMAND;
            }
            int stop = tape.mate[part[2]];
            for (int t = part[2] + 1; t < stop; t = tape.after(t)) {
                if (!reader.isPair(t)) {
                    return NO_COMMAND;
                }
            }
            int n = 0;
            int first = terms.count;
            for (int t = part[2] + 1; t < stop; t = tape.after(t)) {
                int sort = reader.sort(t + 2);
                int parameter = sort < 0 ? sort : terms.leaf(PARAMETER, sort, names.newMark(), 0, 0);
                if (parameter < 0) {
                    return parameter;
                }
                reader.bind(t + 1, parameter);
                n++;
            }
            int sort = reader.sort(part[3]);
            int term = sort < 0 ? sort : reader.term(part[4]);
            if (term < 0) {
                return term;
            }
            if (reader.isTaken(part[1]) || reader.hasTwins(n)) {
                return NO_NAME;
            }
            if (terms.sort[term] != sort) {
                return NO_SORT;
            }
            return enter(part[1], term, first, n) < 0 ? FULL : DONE;
        }

        /** A definition becomes a NAME; FULL if there is no room. */
        private int enter(int token, int term, int first, int n) {
            if (names.isFull(tape, token)) {
                return FULL;
            }
            int name = names.add(tape, token, Names.DEFINED, level, terms.sort[term]);
            names.body[name] = term;
            names.first[name] = first;
            names.arity[name] = n;
            mode = NO_MODE;
            return name;
        }

        /** assert. */
        int claim() {
            if (parts != 2) {
                return NO_COMMAND;
            }
            int token = part[1];
            int symbol = -1;
            if (tape.kind[token] == Tape.OPEN && tape.word[token + 1] == BANG) {
                symbol = namedSymbol(token);
                if (symbol < 0) {
                    return NO_SORT;
                }
                token += 2;
            }
            int term = reader.term(token);
            if (term < 0 || terms.sort[term] != BOOL_SORT) {
                return term < 0 ? term : NO_SORT;
            }
            if (claims >= CLAIM_LIMIT) {
                return FULL;
            }
            int name = -1;
            if (symbol >= 0) {
                name = reader.isTaken(symbol) ? NO_NAME : enter(symbol, term, 0, 0);
                if (name < 0) {
                    return name;
                }
            }
            claim = roomFor(claim, CLAIM * (claims + 1));
            claim[CLAIM * claims] = term;
            claim[CLAIM * claims + 1] = level;
            claim[CLAIM * claims + 2] = name;
            claim[CLAIM * claims + 3] = name >= 0 && tape.isBarred(symbol) ? BARRED : 0;
            claims++;
            mode = NO_MODE;
            return DONE;
        }

        /** The SYMBOL of (! TERM :named SYMBOL), -1 if the list is of another form. */
        private int namedSymbol(int token) {
            int stop = tape.mate[token];
            if (token + 2 >= stop) {
                return -1;
            }
            int keyword = tape.after(token + 2);
            if (keyword + 2 != stop || tape.kind[keyword] != Tape.KEYWORD || tape.kind[keyword + 1] != Tape.SYMBOL) {
                return -1;
            }
            int from = tape.from[keyword];
            String due = ":named";
            boolean isNamed = tape.to[keyword] - from == due.length();
            for (int k = 0; isNamed && k < due.length(); k++) {
                isNamed = tape.bytes[from + k] == due.charAt(k);
            }
            return isNamed ? keyword + 1 : -1;
        }

        /** check-sat and check-sat-assuming. */
        int check(int command) {
            askedCount = 0;
            if (command == CHECK_SAT ? parts != 1 : parts != 2 || !isPart(1, Tape.OPEN)) {
                return NO_COMMAND;
            }
            int list = command == CHECK_SAT ? 0 : part[1];
            for (int t = list + 1; list > 0 && t < tape.mate[list]; t = tape.after(t)) {
                int term = reader.term(t);
                if (term < 0) {
                    return term;
                }
                asked = roomFor(asked, askedCount + 1);
                asked[askedCount] = term;
                askedCount++;
            }
            for (int k = 0; k < askedCount; k++) {
                if (terms.sort[asked[k]] != BOOL_SORT) {
                    return NO_SORT;
                }
            }
            supposed = roomFor(supposed, askedCount);
            System.arraycopy(asked, 0, supposed, 0, askedCount);
            supposedCount = askedCount;
            for (int k = 0; k < claims; k++) {
                int literal = encoder.bit(encoder.encode(claim[CLAIM * k]), 0);
                boolean isForGood = claim[CLAIM * k + 1] == 0 && claim[CLAIM * k + 2] < 0;
                if (isForGood && (claim[CLAIM * k + 3] & STATED) == 0) {
                    encoder.state(literal);
                    claim[CLAIM * k + 3] |= STATED;
                }
            }
            for (int k = 0; k < supposedCount; k++) {
                encoder.encode(supposed[k]);
            }
            assumeAll(-1);
            answer(sat.solve(assumed));
            return DONE;
        }

        private void answer(boolean isSat) {
            givenUp += encoder.isBroken() ? 1 : 0;
            if (isSat && !sat.isModel(assumed)) {
                falseModels++;
            }
            mode = isSat ? SAT_MODE : UNSAT_MODE;
            model++;
            tape.printLine(isSat ? "sat" : "unsat");
        }

        /** The search is to assume all that is asserted but for one, and what the check assumed. */
        private void assumeAll(int without) {
            assumed = 0;
            for (int k = 0; k < claims; k++) {
                if (k != without && (claim[CLAIM * k + 3] & (STATED | LEFT_OUT)) == 0) {
                    sat.assume(assumed, literalOf(claim[CLAIM * k]));
                    assumed++;
                }
            }
            for (int k = 0; k < supposedCount; k++) {
                sat.assume(assumed, literalOf(supposed[k]));
                assumed++;
            }
        }

        private int literalOf(int term) {
            return encoder.bit(terms.word[term], 0);
        }

        /** get-value, up to the values. */
        int ask() {
            if (parts != 2 || !isPart(1, Tape.OPEN) || tape.kind[part[1] + 1] == Tape.CLOSE) {
                return NO_COMMAND;
            }
            askedCount = 0;
            for (int t = part[1] + 1; t < tape.mate[part[1]]; t = tape.after(t)) {
                int term = reader.term(t);
                if (term < 0) {
                    return term;
                }
                asked = roomFor(asked, askedCount + 1);
                asked[askedCount] = term;
                askedCount++;
            }
            if (mode != SAT_MODE) {
                return NO_MODEL;
            }
            for (int k = 0; k < askedCount; k++) {
                if (isOpen(terms.sort[asked[k]])) {
                    return NO_VALUE;
                }
            }
            for (int k = 0; k < askedCount; k++) {
                encoder.encode(asked[k]);
            }
            return DONE;
        }

        /** The constants, then the TERMS that are asked, get the least values that they can have. */
        void fixModel() {
            pinned = roomFor(pinned, sat.variables);
            sat.solve(assumed);
            for (int name = 0; name < names.count; name++) {
                boolean isDeclared = names.kind[name] == Names.DECLARED && names.arity[name] == 0;
                if (isDeclared && names.settled[name] != model && !isOpen(names.sort[name])) {
                    int term = terms.findConstant(names.sort[name], names.mark[name]);
                    // A constant that no clause knows of can be 0, and will be when one does.
                    if (term >= 0 && terms.word[term] >= 0) {
                        makeLeast(terms.word[term]);
                        names.settled[name] = model;
                    }
                }
            }
            for (int k = 0; k < askedCount; k++) {
                makeLeast(terms.word[asked[k]]);
            }
            if (!sat.isModel(assumed)) {
                falseModels++;
            }
        }

        /** Each TERM that was asked, as it is written, and its value. */
        void printValues() {
            tape.put('(');
            int t = part[1] + 1;
            for (int k = 0; k < askedCount; k++) {
                tape.print(k == 0 ? "(" : " (");
                tape.printExpression(t);
                tape.put(' ');
                printValue(terms.sort[asked[k]], terms.word[asked[k]]);
                tape.put(')');
                t = tape.after(t);
            }
            tape.printLine(")");
        }

        /** Each bit of a word, the highest first, becomes 0 if it can. */
        private void makeLeast(int word) {
            boolean isGuess = true;
            for (int k = encoder.wordWidth(word) - 1; k >= 0; k--) {
                int literal = encoder.bit(word, k);
                if (isSettled(literal)) {
                    continue;
                }
                // That all the rest is 0 is often so, and is found much sooner than by one bit.
                if (isGuess && sat.isTrue(literal)) {
                    sat.solve(assumed + assumeZeros(word, k));
                    isGuess = false;
                }
                if (sat.isTrue(literal)) {
                    sat.assume(assumed, literal ^ 1);
                    sat.solve(assumed + 1);
                }
                isGuess |= sat.isTrue(literal);
                sat.assume(assumed, sat.isTrue(literal) ? literal : literal ^ 1);
                assumed++;
                pinned[literal >> 1] = model;
            }
        }

        private boolean isSettled(int literal) {
            return pinned[literal >> 1] == model || sat.isKnown(literal);
        }

        /** This bit of a word and all below it are to be 0 in the next search; answers how many literals that are. */
        private int assumeZeros(int word, int high) {
            int more = 0;
            for (int k = high; k >= 0; k--) {
                int literal = encoder.bit(word, k);
                if (!isSettled(literal)) {
                    sat.assume(assumed + more, literal ^ 1);
                    more++;
                }
            }
            return more;
        }

        private void printValue(int sort, int word) {
            int width = widthOf(sort);
            if (sort == BOOL_SORT) {
                tape.print(sat.isTrue(encoder.bit(word, 0)) ? "true" : "false");
            } else if (sort == MODE_SORT) {
                printMode(word);
            } else if (isFloat(sort)) {
                printFloat(exponentOf(sort), significandOf(sort), word);
            } else {
                printBits(word, width - 1, 0);
            }
        }

        private void printBits(int word, int high, int low) {
            tape.print("#b");
            for (int k = high; k >= low; k--) {
                tape.put(sat.isTrue(encoder.bit(word, k)) ? '1' : '0');
            }
        }

        private void printMode(int word) {
            String modes = "RNERNARTPRTNRTZ";
            int mode = 0;
            for (int k = 2; k >= 0; k--) {
                mode = 2 * mode + (sat.isTrue(encoder.bit(word, k)) ? 1 : 0);
            }
            for (int k = 0; k < 3 && mode < 5; k++) {
                tape.put(modes.charAt(3 * mode + k));
            }
        }

        private void printFloat(int e, int s, int word) {
            boolean isNaN = sat.isTrue(encoder.bit(word, s - 2));
            for (int k = s - 1; k <= e + s - 2; k++) {
                isNaN &= sat.isTrue(encoder.bit(word, k));
            }
            if (isNaN) {
                tape.print("(_ NaN ");
                tape.put('0' + e);
                tape.put(' ');
                if (s > 9) {
                    tape.put('1');
                }
                tape.put('0' + s % 10);
                tape.put(')');
                return;
            }
            tape.print("(fp ");
            printBits(word, e + s - 1, e + s - 1);
            tape.put(' ');
            printBits(word, e + s - 2, s - 1);
            tape.put(' ');
            printBits(word, s - 2, 0);
            tape.put(')');
        }

        /** get-unsat-core. */
        int getCore() {
            if (parts != 1) {
                return NO_COMMAND;
            }
            if (mode != UNSAT_MODE) {
                return NO_CORE;
            }
            for (int k = 0; k < claims; k++) {
                claim[CLAIM * k + 3] &= ~LEFT_OUT;
            }
            boolean hasCore = isUnsatWithout(-1);
            for (int k = 0; k < claims; k++) {
                boolean isNamed = claim[CLAIM * k + 2] >= 0;
                if (isNamed && (hasCore && !sat.isInCore(literalOf(claim[CLAIM * k])) || isUnsatWithout(k))) {
                    claim[CLAIM * k + 3] |= LEFT_OUT;
                }
            }
            tape.put('(');
            boolean isFirst = true;
            for (int k = 0; k < claims; k++) {
                if (claim[CLAIM * k + 2] >= 0 && (claim[CLAIM * k + 3] & LEFT_OUT) == 0) {
                    tape.print(isFirst ? "" : " ");
                    printName(claim[CLAIM * k + 2], (claim[CLAIM * k + 3] & BARRED) != 0);
                    isFirst = false;
                }
                claim[CLAIM * k + 3] &= ~LEFT_OUT;
            }
            tape.printLine(")");
            return DONE;
        }

        /** What is left of the assertions, without one of them, is still unsat. */
        private boolean isUnsatWithout(int k) {
            assumeAll(k);
            return !sat.solve(assumed);
        }

        private void printName(int name, boolean isBarred) {
            tape.print(isBarred ? "|" : "");
            tape.printBytes(names.text, names.textFrom(name), names.textTo(name));
            tape.print(isBarred ? "|" : "");
        }
    }
}
