import java.util.Arrays;

/**
 * A mill for programs that can be run both ways: it reads texts in the manner of Janus, runs them on and back, and
 * writes them and their inverses.
 */
public final class JanusMill {
    public static final int NONE = -1;
    public static final int RANGE = -2;
    public static final int STATE = -3;
    public static final int FULL = -4;

    private static final int TAPE_ROOM = 4000;
    private static final int FED_AT_ONCE = 20;
    private static final int MOST_STEPS = 20000;
    private static final int FIRST_NAME_BYTE = 10;

    private final byte[] tape = new byte[TAPE_ROOM];
    private final Reader reader = new Reader();
    private final Machine machine = new Machine();
    private final Writer writer = new Writer();
    // A text that turns out to be wrong must not touch the program that there was, so it is read into the spare one.
    private Program current = machine.program;
    private Program spare = reader.program;
    private int tapeLength;
    private int faultKind;
    private int faultPlace = NONE;

    /** A mill without a program. */
    public JanusMill() {
    }

    public int feed(int a, int b, int c, int d, int e) {
        if (tapeLength > TAPE_ROOM - FED_AT_ONCE) {
            return FULL;
        }
        lengthen(a);
        lengthen(b);
        lengthen(c);
        lengthen(d);
        lengthen(e);
        return tapeLength;
    }

    private void lengthen(int four) {
        for (int shift = 24; shift >= 0; shift -= 8) {
            tape[tapeLength] = (byte) (four >> shift);
            tapeLength++;
        }
    }

    public int end(int n) {
        if (n < 0 || n > tapeLength) {
            return NONE;
        }
        tapeLength = n;
        return n;
    }

    public int load() {
        reader.start(spare, tape, tapeLength);
        // Each turn takes a token at least.
        for (int turn = 0; turn <= Tokens.MOST && reader.goesOn(); turn++) {
            if (reader.isInBlock()) {
                reader.readStatement();
            } else {
                reader.readAround();
            }
        }
        reader.settleCalls();
        faultKind = reader.tokens.wrong;
        faultPlace = reader.tokens.wrongPlace;
        if (faultKind != 0) {
            return NONE;
        }
        Program read = spare;
        spare = current;
        current = read;
        machine.accept(current);
        tapeLength = 0;
        return current.code.used;
    }

    public int fault(int what) {
        if (what == 0) {
            return faultKind;
        }
        return what == 1 ? faultPlace : NONE;
    }

    public int variable(int v, int what) {
        if (!isDeclared(v)) {
            return NONE;
        }
        Names names = current.names;
        switch (what) {
            case 0:
                return names.sorts[v];
            case 1:
                return names.bits[v];
            case 2:
                return names.lengths[v];
            case 3:
                return Words.lengthOf(names.words[v]);
            default:
                return nameByte(names.words[v], what);
        }
    }

    private static int nameByte(long word, int what) {
        int length = Words.lengthOf(word);
        if (what < FIRST_NAME_BYTE || what >= FIRST_NAME_BYTE + length) {
            return NONE;
        }
        return Words.byteFromEnd(word, FIRST_NAME_BYTE + length - 1 - what);
    }

    private boolean isDeclared(int v) {
        return v >= 0 && v < current.names.declared;
    }

    private boolean isStack(int v) {
        return isDeclared(v) && current.names.sorts[v] == Names.STACK;
    }

    public long value(int v, int i) {
        if (!isDeclared(v) || i < 0 || i >= machine.amount(v)) {
            return Long.MIN_VALUE;
        }
        return machine.store.numbers[machine.store.bases[v] + i];
    }

    public int size(int v) {
        return isDeclared(v) ? machine.amount(v) : NONE;
    }

    public int set(int v, int i, long x) {
        if (!isDeclared(v) || isStack(v) || i < 0 || i >= machine.amount(v)) {
            return NONE;
        }
        if (machine.running) {
            return STATE;
        }
        machine.store.numbers[machine.store.bases[v] + i] = Machine.narrow(x, current.names.bits[v]);
        return 1;
    }

    public int lay(int v, long x) {
        if (!isStack(v)) {
            return NONE;
        }
        if (machine.running) {
            return STATE;
        }
        Store store = machine.store;
        int height = store.heights[v];
        if (height >= current.names.lengths[v]) {
            return FULL;
        }
        store.numbers[store.bases[v] + height] = Machine.narrow(x, current.names.bits[v]);
        store.heights[v] = height + 1;
        return height + 1;
    }

    public int begin(boolean backwards) {
        if (!current.isThere()) {
            return STATE;
        }
        machine.start(backwards);
        return 1;
    }

    public int drop() {
        if (!machine.running) {
            return STATE;
        }
        return machine.stop();
    }

    public int step(int n) {
        if (n < -MOST_STEPS || n > MOST_STEPS) {
            return RANGE;
        }
        return machine.running ? machine.go(n, MOST_STEPS) : STATE;
    }

    public int state(int what) {
        return machine.running ? machine.tell(what) : stateWithoutRun(what);
    }

    private static int stateWithoutRun(int what) {
        switch (what) {
            case 0:
            case 1:
            case 3:
            case 6:
            case 7:
                return 0;
            default:
                return NONE;
        }
    }

    public int frame(int k, int what) {
        Store store = machine.store;
        if (k < 0 || k >= store.frames) {
            return NONE;
        }
        switch (what) {
            case 0:
                return store.procedures[k];
            case 1:
                return store.makers[k];
            case 2:
                return store.ahead[k];
            default:
                return NONE;
        }
    }

    public long local(int i) {
        if (i < 0 || i >= machine.store.locals) {
            return Long.MIN_VALUE;
        }
        return machine.store.numbers[Store.FIRST_LOCAL + i];
    }

    public int code(int i, int what) {
        if (i < 0 || i >= current.code.used) {
            return NONE;
        }
        switch (what) {
            case 0:
                return current.code.instructions[i];
            case 1:
                return current.code.places[i];
            case 2:
                return current.code.partners[i];
            default:
                return NONE;
        }
    }

    public int write(boolean inverse) {
        if (!current.isThere()) {
            return STATE;
        }
        return writer.compose(current, inverse) ? writer.outLength : FULL;
    }

    public int out(int i) {
        if (i < 0 || i >= writer.outLength) {
            return NONE;
        }
        return writer.out[i];
    }

    public int count(int what) {
        switch (what) {
            case 0:
                return tapeLength;
            case 1:
                return current.names.declared;
            case 2:
                return current.procedures;
            case 3:
                return current.code.used;
            case 4:
                return current.parts.used;
            default:
                return NONE;
        }
    }

    /** The kinds of TOKENS and of PARTS, and how they are spelled. A word is held as one long, to be compared at once. */
    private static final class Words {
        static final int END = 0;
        static final int NO_TOKEN = 1;
        static final int NAME = 2;
        static final int NUMBER = 3;

        static final int BYTE = 10;
        static final int SHORT = 11;
        static final int INT = 12;
        static final int LONG = 13;
        static final int STACK = 14;
        static final int PROC = 15;
        static final int MAIN = 16;
        static final int PUSH = 17;
        static final int POP = 18;
        static final int IF = 19;
        static final int ELSE = 20;
        static final int FI = 21;
        static final int FROM = 22;
        static final int DO = 23;
        static final int LOOP = 24;
        static final int UNTIL = 25;
        static final int LOCAL = 26;
        static final int DELOCAL = 27;
        static final int CALL = 28;
        static final int UNCALL = 29;
        static final int ASSERT = 30;
        static final int SKIP = 31;
        static final int TOP = 32;
        static final int SIZE = 33;
        static final int EMPTY = 34;

        static final int OPEN = 40;
        static final int CLOSE = 41;
        static final int OPEN_BLOCK = 42;
        static final int CLOSE_BLOCK = 43;
        static final int OPEN_ROW = 44;
        static final int CLOSE_ROW = 45;
        static final int COMMA = 46;
        static final int SEMICOLON = 47;
        static final int EQUALS = 48;
        static final int PLUS = 49;
        static final int MINUS = 50;
        static final int TIMES = 51;
        static final int OVER = 52;
        static final int REST = 53;
        static final int AND = 54;
        static final int OR = 55;
        static final int XOR = 56;
        static final int TILDE = 57;
        static final int NOT = 58;
        static final int LESS = 59;
        static final int MORE = 60;
        static final int AT_MOST = 61;
        static final int AT_LEAST = 62;
        static final int SAME = 63;
        static final int OTHER = 64;
        static final int LEFT = 65;
        static final int RIGHT = 66;
        static final int UNSIGNED_RIGHT = 67;
        static final int BOTH = 68;
        static final int EITHER = 69;
        static final int ADD_TO = 70;
        static final int TAKE_FROM = 71;
        static final int XOR_INTO = 72;
        static final int TIMES_BY = 73;
        static final int OVER_BY = 74;
        static final int TURN_LEFT = 75;
        static final int TURN_RIGHT = 76;
        static final int SWAP = 77;

        // PARTS that no sign tells apart: a - ahead, a SCALAR's NAME, a ROW's place.
        static final int NEGATIVE = 90;
        static final int SCALAR_PART = 91;
        static final int ROW_PART = 92;

        static final int LONGEST_WORD = 12;
        static final int LONGEST_NUMBER = 18;
        static final int LONGEST_SIGN = 3;
        private static final int QUOTED_WORDS = 25;
        // 38 to the 12th power is just below 2 to the 63rd: every WORD fits a long.
        private static final long LETTERS = 38;
        private static final int FIRST_DIGIT = 27;
        private static final int UNDERLINE = 37;

        private static final String QUOTED =
            "byte short int long stack proc main push pop if else fi from do loop until local delocal call uncall assert skip top size empty ";
        // The bytes of each sign in one int, in the order of the kinds from OPEN on.
        private static final int[] SIGNS = {
            '(', ')', '{', '}', '[', ']', ',', ';', '=', '+', '-', '*', '/', '%', '&', '|', '^', '~', '!', '<', '>',
            '<' << 8 | '=', '>' << 8 | '=', '=' << 8 | '=', '!' << 8 | '=', '<' << 8 | '<', '>' << 8 | '>',
            '>' << 16 | '>' << 8 | '>', '&' << 8 | '&', '|' << 8 | '|', '+' << 8 | '=', '-' << 8 | '=', '^' << 8 | '=',
            '*' << 8 | '=', '/' << 8 | '=', '<' << 16 | '<' << 8 | '=', '>' << 16 | '>' << 8 | '=',
            '<' << 16 | '=' << 8 | '>',
        };
        // How tightly the signs from PLUS to EITHER bind between two operands; 0 for those that can't stand there.
        private static final int[] LEVELS = {
            9, 9, 10, 10, 10, 5, 3, 4, 0, 0, 7, 7, 7, 7, 6, 6, 8, 8, 8, 2, 1,
        };

        private final long[] quoted = new long[QUOTED_WORDS];

        Words() {
            long word = 0;
            int known = 0;
            for (int i = 0; i < QUOTED.length() && known < QUOTED_WORDS; i++) {
                char c = QUOTED.charAt(i);
                if (c == ' ') {
                    quoted[known] = word;
                    known++;
                    word = 0;
                } else {
                    word = longer(word, c);
                }
            }
        }

        static boolean isSmallLetter(int b) {
            return b >= 'a' && b <= 'z';
        }

        static boolean isDigit(int b) {
            return b >= '0' && b <= '9';
        }

        static boolean isOfWord(int b) {
            return isSmallLetter(b) || isDigit(b) || b == '_';
        }

        /** The word with one more byte behind it. */
        static long longer(long word, int b) {
            int letter = UNDERLINE;
            if (isSmallLetter(b)) {
                letter = b - 'a' + 1;
            } else if (isDigit(b)) {
                letter = b - '0' + FIRST_DIGIT;
            }
            return word * LETTERS + letter;
        }

        static int lengthOf(long word) {
            int length = 0;
            long left = word;
            for (int i = 0; i < LONGEST_WORD && left > 0; i++) {
                left /= LETTERS;
                length++;
            }
            return length;
        }

        /** Byte k of the word, counted from its last one. */
        static int byteFromEnd(long word, int k) {
            long left = word;
            for (int i = 0; i < k && i < LONGEST_WORD; i++) {
                left /= LETTERS;
            }
            int letter = (int) (left % LETTERS);
            if (letter == UNDERLINE) {
                return '_';
            }
            return letter < FIRST_DIGIT ? 'a' + letter - 1 : '0' + letter - FIRST_DIGIT;
        }

        /** The kind of a word: one of those quoted, or NAME. */
        int kindOf(long word) {
            for (int i = 0; i < QUOTED_WORDS; i++) {
                if (quoted[i] == word) {
                    return BYTE + i;
                }
            }
            return NAME;
        }

        boolean isQuoted(int kind) {
            return kind >= BYTE && kind < BYTE + QUOTED_WORDS;
        }

        /** The word of a kind, 0 when it is no quoted one. */
        long wordOf(int kind) {
            return isQuoted(kind) ? quoted[kind - BYTE] : 0;
        }

        /** The kind of a sign by its bytes, NO_TOKEN when there is none such. */
        static int kindOfSign(int bytes) {
            for (int i = 0; i < SIGNS.length; i++) {
                if (SIGNS[i] == bytes) {
                    return OPEN + i;
                }
            }
            return NO_TOKEN;
        }

        /** The bytes of a sign, 0 when the kind is no sign's. */
        static int bytesOfSign(int kind) {
            return kind >= OPEN && kind < OPEN + SIGNS.length ? SIGNS[kind - OPEN] : 0;
        }

        /** How tightly a token binds between two operands; 0 when it is no operator that stands there. */
        static int levelOf(int kind) {
            return kind >= PLUS && kind < PLUS + LEVELS.length ? LEVELS[kind - PLUS] : 0;
        }

        /** The bits of a kind of numbers, 0 when the token is no such kind. */
        static int bitsOf(int kind) {
            return kind >= BYTE && kind <= LONG ? 8 << (kind - BYTE) : 0;
        }

        /** The token that tells numbers of so many bits. */
        static int kindOfBits(int bits) {
            switch (bits) {
                case 8:
                    return BYTE;
                case 16:
                    return SHORT;
                case 32:
                    return INT;
                default:
                    return LONG;
            }
        }

        static boolean isUpdate(int kind) {
            return kind >= ADD_TO && kind <= TURN_RIGHT;
        }

        static boolean isByNumber(int kind) {
            return kind == TIMES_BY || kind == OVER_BY;
        }

        /** The operator that undoes an update. */
        static int undoing(int operator) {
            switch (operator) {
                case ADD_TO:
                    return TAKE_FROM;
                case TAKE_FROM:
                    return ADD_TO;
                case TIMES_BY:
                    return OVER_BY;
                case OVER_BY:
                    return TIMES_BY;
                case TURN_LEFT:
                    return TURN_RIGHT;
                case TURN_RIGHT:
                    return TURN_LEFT;
                default:
                    return operator;
            }
        }
    }

    /** The TOKENS of a text, taken one by one, and the first FAULT that is told of them. */
    private static final class Tokens {
        static final int MOST = 1500;

        static final int SYNTAX = 1;
        static final int NAME = 2;
        static final int BAD_NUMBER = 3;
        static final int ROOM = 4;
        static final int SORT = 5;
        static final int TWICE = 6;
        static final int ARGUMENTS = 7;
        static final int HEIGHT = 8;

        private final Words words = new Words();
        // One token beyond the most there may be is kept, so that its FAULT can be told; behind it always stands END.
        private final int[] kinds = new int[MOST + 2];
        private final int[] places = new int[MOST + 2];
        private final long[] values = new long[MOST + 2];
        private int at;
        private int wrong;
        private int wrongPlace = NONE;

        /** Parts the text into tokens; what is no token ends them. */
        void split(byte[] text, int length) {
            at = 0;
            wrong = 0;
            wrongPlace = NONE;
            int i = 0;
            boolean more = true;
            for (int n = 0; n <= MOST && more; n++) {
                i = behindBlanks(text, i, length);
                places[n] = i;
                if (i >= length) {
                    kinds[n] = Words.END;
                } else if (Words.isSmallLetter(text[i])) {
                    i = splitWord(text, i, length, n);
                } else if (Words.isDigit(text[i])) {
                    i = splitNumber(text, i, length, n);
                } else {
                    i = splitSign(text, i, length, n);
                }
                more = kinds[n] != Words.END && kinds[n] != Words.NO_TOKEN;
            }
        }

        private static int behindBlanks(byte[] text, int from, int length) {
            boolean remark = false;
            for (int i = from; i < length; i++) {
                if (text[i] == '\n') {
                    remark = false;
                } else if (text[i] == '#') {
                    remark = true;
                } else if (!remark && text[i] != ' ') {
                    return i;
                }
            }
            return length;
        }

        // All bytes of a word belong together: one that is too long is no token as a whole, not two tokens.
        private int splitWord(byte[] text, int from, int length, int n) {
            long word = 0;
            int i = from;
            for (; i < length && Words.isOfWord(text[i]); i++) {
                word = Words.longer(word, text[i]);
            }
            values[n] = word;
            kinds[n] = i - from > Words.LONGEST_WORD ? Words.NO_TOKEN : words.kindOf(word);
            return i;
        }

        private int splitNumber(byte[] text, int from, int length, int n) {
            long number = 0;
            int i = from;
            for (; i < length && Words.isDigit(text[i]); i++) {
                number = number * 10 + (text[i] - '0');
            }
            values[n] = number;
            kinds[n] = i - from > Words.LONGEST_NUMBER ? Words.NO_TOKEN : Words.NUMBER;
            return i;
        }

        private int splitSign(byte[] text, int from, int length, int n) {
            int bytes = 0;
            int longest = 0;
            kinds[n] = Words.NO_TOKEN;
            // A 0 ahead of other bytes would leave their sign's number as it is, so it must end the search.
            for (int i = from; i < length && i < from + Words.LONGEST_SIGN && text[i] != 0; i++) {
                bytes = bytes << 8 | text[i] & 255;
                int kind = Words.kindOfSign(bytes);
                if (kind != Words.NO_TOKEN) {
                    kinds[n] = kind;
                    longest = i + 1 - from;
                }
            }
            return from + longest;
        }

        int kind() {
            return kinds[at];
        }

        long word() {
            return values[at];
        }

        boolean isFine() {
            return wrong == 0;
        }

        /** Goes on behind a token of that kind: false, and SYNTAX or ROOM is told, if it can't. */
        boolean take(int kind, boolean isRoom) {
            if (wrong != 0) {
                return false;
            }
            if (kinds[at] != kind) {
                wrong = SYNTAX;
            } else if (at >= MOST || !isRoom) {
                wrong = ROOM;
            } else {
                at++;
                return true;
            }
            wrongPlace = places[at];
            return false;
        }

        /** Tells a FAULT at the token, if none was told yet: always false. */
        boolean tell(int kind, int token) {
            if (wrong == 0) {
                wrong = kind;
                wrongPlace = places[Math.max(0, Math.min(token, MOST + 1))];
            }
            return false;
        }
    }

    /** All NAMES of a program but its procedures', and which of them are there where one reads. */
    private static final class Names {
        static final int SCALAR = 0;
        static final int ROW = 1;
        static final int STACK = 2;

        static final int DECLARED = 0;
        static final int PARAM = 1;
        static final int LOCAL = 2;

        static final int MOST_DECLARED = 40;
        static final int MOST_PARAMS = 6;
        static final int MOST_LOCALS = 12;
        static final int MOST_NUMBERS = 1000;
        private static final int ROOM = MOST_DECLARED + Program.MOST_PROCEDURES * MOST_PARAMS + Code.MOST;

        private final long[] words = new long[ROOM];
        private final int[] sorts = new int[ROOM];
        private final int[] bits = new int[ROOM];
        private final int[] lengths = new int[ROOM];
        private final int[] homes = new int[ROOM];
        // Which one it is in its home: of those declared, of the params, of the locals that are one in another.
        private final int[] ranks = new int[ROOM];
        private final int[] scope = new int[MOST_DECLARED + MOST_PARAMS + MOST_LOCALS];
        private int used;
        private int inScope;
        private int declared;
        private int numbers;

        void clear() {
            used = 0;
            inScope = 0;
            declared = 0;
            numbers = 0;
        }

        /** The NAME with that word among those that are there, or NONE. */
        int find(long word) {
            for (int i = 0; i < inScope; i++) {
                if (words[scope[i]] == word) {
                    return scope[i];
                }
            }
            return NONE;
        }

        /** A new NAME, not yet there for the reader; NONE without room. */
        int add(long word, int sort, int width, int home, int rank) {
            if (used >= ROOM) {
                return NONE;
            }
            words[used] = word;
            sorts[used] = sort;
            bits[used] = width;
            lengths[used] = 1;
            homes[used] = home;
            ranks[used] = rank;
            used++;
            return used - 1;
        }

        void show(int name) {
            if (inScope < scope.length && name >= 0 && name < used) {
                scope[inScope] = name;
                inScope++;
            }
        }

        void hideLatest() {
            inScope = Math.max(0, inScope - 1);
        }

        void hideAll() {
            inScope = 0;
        }

        void showDeclared() {
            inScope = 0;
            for (int i = 0; i < declared; i++) {
                show(i);
            }
        }

        boolean isAlike(int name, int other) {
            return sorts[name] == sorts[other] && bits[name] == bits[other];
        }
    }

    /** The PARTS of every ex of a program, each with those that it stands over. */
    private static final class Parts {
        static final int MOST = 2000;
        static final int HIGHEST = 16;

        private final int[] operators = new int[MOST];
        // Of NAMES the name, and of a ROW's place the ex in its [ ] to the right.
        private final int[] lefts = new int[MOST];
        private final int[] rights = new int[MOST];
        private final long[] values = new long[MOST];
        private final int[] heights = new int[MOST];
        private int used;

        int addPlace(int name, int index) {
            return add(Words.ROW_PART, name, index, 0, 1 + heightOf(index));
        }

        int addAhead(int operator, int operand) {
            return add(operator, operand, NONE, 0, 1 + heightOf(operand));
        }

        int addBetween(int operator, int left, int right) {
            return add(operator, left, right, 0, 1 + Math.max(heightOf(left), heightOf(right)));
        }

        /** One more PART; NONE without room. */
        int add(int operator, int left, int right, long value, int height) {
            if (used >= MOST) {
                return NONE;
            }
            operators[used] = operator;
            lefts[used] = left;
            rights[used] = right;
            values[used] = value;
            heights[used] = height;
            used++;
            return used - 1;
        }

        int heightOf(int part) {
            return part >= 0 && part < used ? heights[part] : 0;
        }

        boolean isThere(int part) {
            return part >= 0 && part < used;
        }

        /** Whether the NAME stands in one of the PARTS from one on up to another. */
        boolean mention(int name, int from, int to) {
            for (int i = Math.max(0, from); i < to && i < used; i++) {
                if (lefts[i] == name && isName(operators[i])) {
                    return true;
                }
            }
            return false;
        }

        private static boolean isName(int operator) {
            switch (operator) {
                case Words.SCALAR_PART:
                case Words.ROW_PART:
                case Words.TOP:
                case Words.SIZE:
                case Words.EMPTY:
                    return true;
                default:
                    return false;
            }
        }
    }

    /** The INSTRUCTIONS of a program. */
    private static final class Code {
        static final int BEGIN = 1;
        static final int END = 2;
        static final int UPDATE = 3;
        static final int SWAP = 4;
        static final int PUSH = 5;
        static final int POP = 6;
        static final int IF = 7;
        static final int ELSE = 8;
        static final int FI = 9;
        static final int FROM = 10;
        static final int UNTIL = 11;
        static final int LOOP = 12;
        static final int LOCAL = 13;
        static final int DELOCAL = 14;
        static final int CALL = 15;
        static final int UNCALL = 16;
        static final int ASSERT = 17;
        static final int SKIP = 18;

        static final int MOST = 600;
        // An UNTIL has its place ahead of the loop block, but counts at its word only: one for each block may be ahead.
        private static final int ROOM = MOST + Reader.MOST_OPEN + 1;

        private final int[] instructions = new int[ROOM];
        private final int[] places = new int[ROOM];
        private final int[] partners = new int[ROOM];
        // Of IF and FI the ELSE, of ELSE the IF, of FROM and LOOP the UNTIL, of UNTIL the FROM.
        private final int[] middles = new int[ROOM];
        // The ex ahead of the first block and the one at the end, in each INSTRUCTION of a statement.
        private final int[] firsts = new int[ROOM];
        private final int[] seconds = new int[ROOM];
        // The NAME of a place with the ex in its [ ], and of <=> the second one's; behind push and pop the STACK.
        // Of a call: the procedure, where its arguments are, how many, and the TOKEN of its NAME.
        private final int[] targets = new int[ROOM];
        private final int[] indexes = new int[ROOM];
        private final int[] others = new int[ROOM];
        private final int[] otherIndexes = new int[ROOM];
        private final int[] operators = new int[ROOM];
        // The NUMBER behind *= and /=; of a call the procedure's word.
        private final long[] values = new long[ROOM];
        private int used;
        private int counted;

        void clear() {
            used = 0;
            counted = 0;
        }

        /** Keeps an INSTRUCTION's place in the CODE; NONE without room. */
        int reserve() {
            if (used >= ROOM) {
                return NONE;
            }
            int i = used;
            instructions[i] = SKIP;
            places[i] = NONE;
            partners[i] = NONE;
            middles[i] = NONE;
            firsts[i] = NONE;
            seconds[i] = NONE;
            targets[i] = NONE;
            indexes[i] = NONE;
            others[i] = NONE;
            otherIndexes[i] = NONE;
            operators[i] = NONE;
            values[i] = 0;
            used++;
            return i;
        }

        /** Puts an INSTRUCTION at the place that was kept for it: false beyond the most there may be. */
        boolean put(int i, int instruction, int place) {
            if (counted >= MOST || !isThere(i)) {
                return false;
            }
            instructions[i] = instruction;
            places[i] = place;
            counted++;
            return true;
        }

        boolean isThere(int i) {
            return i >= 0 && i < used;
        }

        void pair(int i, int partner, int middle) {
            if (isThere(i)) {
                partners[i] = partner;
                middles[i] = middle;
            }
        }

        void giveEx(int i, int first, int second) {
            if (isThere(i)) {
                firsts[i] = first;
                seconds[i] = second;
            }
        }
    }

    /** A program: what is declared, its procedures and its CODE. */
    private static final class Program {
        static final int MOST_PROCEDURES = 16;

        private final Names names = new Names();
        private final Parts parts = new Parts();
        private final Code code = new Code();
        private final long[] words = new long[MOST_PROCEDURES];
        private final int[] begins = new int[MOST_PROCEDURES];
        private final int[] firstParams = new int[MOST_PROCEDURES];
        private final int[] params = new int[MOST_PROCEDURES];
        // The arguments of all calls, one call's behind the other's.
        private final int[] arguments = new int[Tokens.MOST];
        private int procedures;
        private int given;
        private int mainBegin;

        void clear() {
            names.clear();
            parts.used = 0;
            code.clear();
            procedures = 0;
            given = 0;
            mainBegin = 0;
        }

        boolean isThere() {
            return code.used > 0;
        }

        int findProcedure(long word) {
            for (int i = 0; i < procedures; i++) {
                if (words[i] == word) {
                    return i;
                }
            }
            return NONE;
        }

        boolean isProcedure(int p) {
            return p >= 0 && p < procedures;
        }

        void addProcedure(long word, int begin) {
            if (procedures < MOST_PROCEDURES) {
                words[procedures] = word;
                begins[procedures] = begin;
                firstParams[procedures] = names.used;
                params[procedures] = 0;
                procedures++;
            }
        }

        void addArgument(int name) {
            if (given < arguments.length) {
                arguments[given] = name;
                given++;
            }
        }

        /** Whether argument k of a call is of its param's sort and kind; one too many has no param to differ from. */
        boolean fits(int procedure, int k, int name) {
            return k >= params[procedure] || names.isAlike(name, firstParams[procedure] + k);
        }
    }

    /** Reads an ex by how tightly its operators bind, with rows of its own for what is still open. */
    private static final class ExReader {
        private static final int MOST_OPEN = 40;
        // Between two things that are open stand ten operators at most, each tighter than the one ahead.
        private static final int ROOM = 512;
        private static final int UNFINISHED = -2;

        private final Tokens tokens = new Tokens();
        private final int[] pending = new int[ROOM];
        private final int[] pendingTokens = new int[ROOM];
        private final int[] pendingNames = new int[ROOM];
        private final int[] operands = new int[ROOM];
        private final Program firstProgram = new Program();
        private Names names = firstProgram.names;
        private Parts parts = firstProgram.parts;
        private int waiting;
        private int held;
        private int opened;
        private int changed;
        private int changedToo;

        void start(Program empty) {
            names = empty.names;
            parts = empty.parts;
        }

        /** The PART over all others of an ex in which two NAMES (or NONE) must not stand; NONE with a FAULT. */
        int read(int alreadyOpen, int forbidden, int forbiddenToo) {
            waiting = 0;
            held = 0;
            opened = alreadyOpen;
            changed = forbidden;
            changedToo = forbiddenToo;
            boolean isWanted = true;
            for (int turn = 0; turn <= 2 * Tokens.MOST && tokens.isFine(); turn++) {
                int kind = tokens.kind();
                if (isWanted) {
                    int part = readOperand(kind);
                    isWanted = part == UNFINISHED;
                    hold(part);
                    continue;
                }
                int level = Words.levelOf(kind);
                fold(level);
                if (level > 0) {
                    await(kind, tokens.at, NONE);
                    tokens.take(kind, true);
                    isWanted = true;
                } else if (waiting == 0) {
                    return tokens.isFine() ? operands[0] : NONE;
                } else {
                    hold(readClosing());
                }
            }
            return NONE;
        }

        /** Reads what may stand where an operand is due: its PART if it is whole, UNFINISHED if it is not yet. */
        private int readOperand(int kind) {
            switch (kind) {
                case Words.NUMBER:
                    long value = tokens.word();
                    return tokens.take(kind, true) ? parts.add(kind, NONE, NONE, value, 1) : NONE;
                case Words.NAME:
                    return readName();
                case Words.TOP:
                case Words.SIZE:
                case Words.EMPTY:
                    return readMeasure(kind);
                case Words.OPEN:
                case Words.MINUS:
                case Words.TILDE:
                case Words.NOT:
                    await(kind == Words.MINUS ? Words.NEGATIVE : kind, tokens.at, NONE);
                    tokens.take(kind, opened < MOST_OPEN);
                    opened++;
                    return UNFINISHED;
                default:
                    tokens.tell(Tokens.SYNTAX, tokens.at);
                    return NONE;
            }
        }

        private int readName() {
            int token = tokens.at;
            int name = names.find(tokens.word());
            if (name == NONE) {
                tokens.tell(Tokens.NAME, token);
            }
            if (!tokens.take(Words.NAME, true)) {
                return NONE;
            }
            boolean isRow = tokens.kind() == Words.OPEN_ROW;
            if (names.sorts[name] != (isRow ? Names.ROW : Names.SCALAR)) {
                tokens.tell(Tokens.SORT, token);
            }
            if (name == changed || name == changedToo) {
                tokens.tell(Tokens.TWICE, token);
            }
            if (!isRow) {
                return parts.add(Words.SCALAR_PART, name, NONE, 0, 1);
            }
            await(Words.OPEN_ROW, token, name);
            tokens.take(Words.OPEN_ROW, opened < MOST_OPEN);
            opened++;
            return UNFINISHED;
        }

        /** Reads top, size or empty with its NAME. */
        private int readMeasure(int operator) {
            tokens.take(operator, true);
            if (!tokens.take(Words.OPEN, opened < MOST_OPEN)) {
                return NONE;
            }
            int token = tokens.at;
            int name = names.find(tokens.word());
            if (tokens.kind() == Words.NAME && name == NONE) {
                tokens.tell(Tokens.NAME, token);
            }
            if (!tokens.take(Words.NAME, true)) {
                return NONE;
            }
            int sort = names.sorts[name];
            if (operator == Words.SIZE ? sort == Names.SCALAR : sort != Names.STACK) {
                tokens.tell(Tokens.SORT, token);
            }
            if (name == changed || name == changedToo) {
                tokens.tell(Tokens.TWICE, token);
            }
            tokens.take(Words.CLOSE, true);
            return parts.add(operator, name, NONE, 0, 1);
        }

        /** Ends what was opened last by ( or [ : the PART that is whole by it. */
        private int readClosing() {
            if (waiting < 1 || held < 1) {
                return NONE;
            }
            boolean isRow = pending[waiting - 1] == Words.OPEN_ROW;
            if (!tokens.take(isRow ? Words.CLOSE_ROW : Words.CLOSE, true)) {
                return NONE;
            }
            waiting--;
            held--;
            opened--;
            if (!isRow) {
                return operands[held];
            }
            int place = parts.addPlace(pendingNames[waiting], operands[held]);
            tellHeight(place, pendingTokens[waiting]);
            return place;
        }

        private void await(int operator, int token, int name) {
            if (waiting < ROOM) {
                pending[waiting] = operator;
                pendingTokens[waiting] = token;
                pendingNames[waiting] = name;
                waiting++;
            }
        }

        /** Keeps an operand that is whole, with all - ~ ! ahead of it. */
        private void hold(int part) {
            if (part < 0 || held >= ROOM) {
                return;
            }
            int whole = part;
            for (int n = waiting - 1; n >= 0 && isAhead(pending[n]); n--) {
                whole = parts.addAhead(pending[n], whole);
                tellHeight(whole, pendingTokens[n]);
                waiting--;
                opened--;
            }
            operands[held] = whole;
            held++;
        }

        private static boolean isAhead(int operator) {
            return operator == Words.NEGATIVE || operator == Words.TILDE || operator == Words.NOT;
        }

        /** Makes PARTS of the latest operators, as far as they bind as tightly as that level. */
        private void fold(int level) {
            int least = Math.max(level, 1);
            for (int n = waiting - 1; n >= 0 && held >= 2 && Words.levelOf(pending[n]) >= least; n--) {
                held--;
                int whole = parts.addBetween(pending[n], operands[held - 1], operands[held]);
                operands[held - 1] = whole;
                tellHeight(whole, pendingTokens[n]);
                waiting--;
            }
        }

        private void tellHeight(int part, int token) {
            if (part == NONE) {
                tokens.tell(Tokens.ROOM, token);
            } else if (parts.heightOf(part) > Parts.HIGHEST) {
                tokens.tell(Tokens.HEIGHT, token);
            }
        }
    }

    /** Reads TOKENS into a program, a statement or what stands around blocks at a time. */
    private static final class Reader {
        static final int MOST_OPEN = 16;

        // What is read next: the top of the text, a block's statements, or what stands behind a block.
        private static final int DECLARATIONS = 0;
        private static final int PROCEDURES = 1;
        private static final int STATEMENTS = 2;
        private static final int BEHIND_BODY = 3;
        private static final int BEHIND_THEN = 4;
        private static final int BEHIND_ELSE = 5;
        private static final int BEHIND_DO = 6;
        private static final int BEHIND_LOOP = 7;
        private static final int BEHIND_LOCAL = 8;
        private static final int TEXT_END = 9;
        private static final int DONE = 10;

        private static final int LONGEST_ROW = 200;
        private static final int HIGHEST_STACK = 40;

        private final ExReader exReader = new ExReader();
        private final Tokens tokens = exReader.tokens;
        // Of each block that is open: what is read behind it, and the INSTRUCTIONS of its statement so far.
        private final int[] stagesBehind = new int[MOST_OPEN];
        private final int[] heads = new int[MOST_OPEN];
        private final int[] middles = new int[MOST_OPEN];
        private Program program = exReader.firstProgram;
        private Names names = program.names;
        private Code code = program.code;
        private int stage;
        private int open;
        private int head;
        private int middle;
        private boolean isInMain;
        private int locals;
        private int placeName;
        private int placeIndex;
        private int indexFrom;
        private int indexTo;

        void start(Program empty, byte[] text, int length) {
            program = empty;
            program.clear();
            names = program.names;
            code = program.code;
            exReader.start(program);
            tokens.split(text, length);
            stage = DECLARATIONS;
            open = 0;
            isInMain = false;
            locals = 0;
        }

        boolean goesOn() {
            return stage != DONE && tokens.isFine();
        }

        boolean isInBlock() {
            return stage == STATEMENTS;
        }

        /** Reads what stands outside of blocks, or between the blocks of a statement. */
        void readAround() {
            switch (stage) {
                case BEHIND_THEN:
                    readBehindThen();
                    break;
                case BEHIND_ELSE:
                    readFi();
                    break;
                case BEHIND_DO:
                    readBehindDo();
                    break;
                case BEHIND_LOOP:
                    readUntil();
                    break;
                case BEHIND_LOCAL:
                    readDelocal();
                    break;
                case TEXT_END:
                    if (tokens.kind() != Words.END) {
                        tokens.tell(Tokens.SYNTAX, tokens.at);
                    }
                    stage = DONE;
                    break;
                default:
                    readTop(tokens.kind());
                    break;
            }
        }

        private void readTop(int kind) {
            boolean mayDeclare = stage == DECLARATIONS;
            if (mayDeclare && Words.bitsOf(kind) > 0) {
                readDeclaration(kind);
            } else if (mayDeclare && kind == Words.STACK) {
                readStack();
            } else if (kind == Words.PROC) {
                readProcedure();
            } else {
                readMain();
            }
        }

        private void readDeclaration(int kind) {
            tokens.take(kind, true);
            boolean more = true;
            for (int n = 0; n <= Tokens.MOST && more; n++) {
                int name = readDeclared(Names.SCALAR, Words.bitsOf(kind));
                if (tokens.kind() == Words.OPEN_ROW) {
                    readLength(name, Names.ROW, LONGEST_ROW);
                }
                more = tokens.kind() == Words.COMMA && tokens.take(Words.COMMA, true);
            }
            tokens.take(Words.SEMICOLON, true);
        }

        private void readStack() {
            tokens.take(Words.STACK, true);
            int bits = readBits();
            int name = readDeclared(Names.STACK, bits);
            readLength(name, Names.STACK, HIGHEST_STACK);
            tokens.take(Words.SEMICOLON, true);
        }

        private int readBits() {
            int kind = tokens.kind();
            int bits = Words.bitsOf(kind);
            if (bits == 0) {
                tokens.tell(Tokens.SYNTAX, tokens.at);
            }
            tokens.take(kind, true);
            return bits;
        }

        /** Takes a NAME that must be new among those that are there: its word, 0 with a FAULT. */
        private long readNewName(boolean isRoom) {
            long word = tokens.word();
            if (tokens.kind() == Words.NAME && names.find(word) != NONE) {
                tokens.tell(Tokens.NAME, tokens.at);
            }
            return tokens.take(Words.NAME, isRoom) ? word : 0;
        }

        private int readDeclared(int sort, int bits) {
            long word = readNewName(names.declared < Names.MOST_DECLARED);
            if (word == 0) {
                return NONE;
            }
            int name = names.add(word, sort, bits, Names.DECLARED, names.declared);
            names.declared++;
            names.show(name);
            return name;
        }

        private void readLength(int name, int sort, int most) {
            if (!tokens.take(Words.OPEN_ROW, true) || name == NONE) {
                return;
            }
            long length = tokens.word();
            if (tokens.kind() == Words.NUMBER && (length < 1 || length > most)) {
                tokens.tell(Tokens.BAD_NUMBER, tokens.at);
            }
            if (tokens.take(Words.NUMBER, names.numbers + length <= Names.MOST_NUMBERS)) {
                names.sorts[name] = sort;
                names.lengths[name] = (int) length;
                names.numbers += (int) length;
            }
            tokens.take(Words.CLOSE_ROW, true);
        }

        private void readProcedure() {
            int begin = emit(Code.BEGIN);
            tokens.take(Words.PROC, true);
            long word = tokens.word();
            if (tokens.kind() == Words.NAME && program.findProcedure(word) != NONE) {
                tokens.tell(Tokens.NAME, tokens.at);
            }
            if (!tokens.take(Words.NAME, program.procedures < Program.MOST_PROCEDURES)) {
                return;
            }
            program.addProcedure(word, begin);
            names.hideAll();
            tokens.take(Words.OPEN, true);
            boolean more = tokens.kind() != Words.CLOSE;
            for (int n = 0; n <= Names.MOST_PARAMS && more; n++) {
                readParam(n);
                more = tokens.kind() == Words.COMMA && tokens.take(Words.COMMA, true);
            }
            tokens.take(Words.CLOSE, true);
            openBlock(BEHIND_BODY, begin, NONE);
        }

        private void readParam(int rank) {
            boolean isStack = tokens.kind() == Words.STACK;
            if (isStack) {
                tokens.take(Words.STACK, true);
            }
            int bits = readBits();
            long word = readNewName(rank < Names.MOST_PARAMS);
            int sort = isStack ? Names.STACK : Names.SCALAR;
            if (!isStack && tokens.kind() == Words.OPEN_ROW) {
                tokens.take(Words.OPEN_ROW, true);
                tokens.take(Words.CLOSE_ROW, true);
                sort = Names.ROW;
            }
            if (tokens.isFine()) {
                names.show(names.add(word, sort, bits, Names.PARAM, rank));
                program.params[program.procedures - 1]++;
            }
        }

        private void readMain() {
            if (tokens.kind() != Words.MAIN) {
                tokens.tell(Tokens.SYNTAX, tokens.at);
                return;
            }
            program.mainBegin = emit(Code.BEGIN);
            tokens.take(Words.MAIN, true);
            names.showDeclared();
            isInMain = true;
            openBlock(BEHIND_BODY, program.mainBegin, NONE);
        }

        private void openBlock(int stageBehind, int itsHead, int itsMiddle) {
            if (tokens.take(Words.OPEN_BLOCK, open < MOST_OPEN)) {
                stagesBehind[open] = stageBehind;
                heads[open] = itsHead;
                middles[open] = itsMiddle;
                open++;
                stage = STATEMENTS;
            }
        }

        private void closeBlock() {
            if (open < 1) {
                return;
            }
            stage = stagesBehind[open - 1];
            head = heads[open - 1];
            middle = middles[open - 1];
            if (stage == BEHIND_BODY) {
                int end = emit(Code.END);
                code.pair(head, end, NONE);
                code.pair(end, head, NONE);
                stage = isInMain ? TEXT_END : PROCEDURES;
            } else if (stage == BEHIND_LOCAL) {
                names.hideLatest();
                locals--;
            }
            tokens.take(Words.CLOSE_BLOCK, true);
            open--;
        }

        /** One more INSTRUCTION at the token that is to be taken: where it is; ROOM is told if there is one too many. */
        private int emit(int instruction) {
            int i = code.reserve();
            putHere(i, instruction);
            return i;
        }

        private void putHere(int i, int instruction) {
            if (!code.put(i, instruction, tokens.places[tokens.at])) {
                tokens.tell(Tokens.ROOM, tokens.at);
            }
        }

        /** Reads one statement, up to its first block, or the end of a block. */
        void readStatement() {
            int kind = tokens.kind();
            switch (kind) {
                case Words.NAME:
                    readChange();
                    break;
                case Words.PUSH:
                case Words.POP:
                    readPushOrPop(kind);
                    break;
                case Words.IF:
                    readIf();
                    break;
                case Words.FROM:
                    readFrom();
                    break;
                case Words.LOCAL:
                    readLocal();
                    break;
                case Words.CALL:
                case Words.UNCALL:
                    readCall(kind);
                    break;
                case Words.ASSERT:
                    readAssert();
                    break;
                case Words.SKIP:
                    emit(Code.SKIP);
                    tokens.take(kind, true);
                    tokens.take(Words.SEMICOLON, true);
                    break;
                case Words.CLOSE_BLOCK:
                    closeBlock();
                    break;
                default:
                    tokens.tell(Tokens.SYNTAX, tokens.at);
                    break;
            }
        }

        /** Reads a place; of <=> the second one behind that of the NAME first (else NONE). */
        private boolean readPlace(int first) {
            int token = tokens.at;
            int name = names.find(tokens.word());
            if (tokens.kind() == Words.NAME && name == NONE) {
                tokens.tell(Tokens.NAME, token);
            }
            if (!tokens.take(Words.NAME, true)) {
                return false;
            }
            boolean isRow = tokens.kind() == Words.OPEN_ROW;
            if (names.sorts[name] != (isRow ? Names.ROW : Names.SCALAR)) {
                tokens.tell(Tokens.SORT, token);
            }
            if (first != NONE && names.bits[name] != names.bits[first]) {
                tokens.tell(Tokens.SORT, token);
            }
            if (first != NONE && program.parts.mention(name, indexFrom, indexTo)) {
                tokens.tell(Tokens.TWICE, token);
            }
            placeName = name;
            placeIndex = NONE;
            indexFrom = program.parts.used;
            if (isRow) {
                tokens.take(Words.OPEN_ROW, true);
                placeIndex = exReader.read(1, name, first);
                tokens.take(Words.CLOSE_ROW, true);
            }
            indexTo = program.parts.used;
            return tokens.isFine();
        }

        private void readChange() {
            if (!readPlace(NONE)) {
                return;
            }
            int name = placeName;
            int index = placeIndex;
            int operator = tokens.kind();
            boolean isSwap = operator == Words.SWAP;
            if (!isSwap && !Words.isUpdate(operator)) {
                tokens.tell(Tokens.SYNTAX, tokens.at);
                return;
            }
            int i = emit(isSwap ? Code.SWAP : Code.UPDATE);
            if (!tokens.take(operator, true)) {
                return;
            }
            code.targets[i] = name;
            code.indexes[i] = index;
            code.operators[i] = operator;
            if (isSwap) {
                readPlace(name);
                code.others[i] = placeName;
                code.otherIndexes[i] = placeIndex;
            } else if (Words.isByNumber(operator)) {
                code.values[i] = readFactor();
            } else {
                code.firsts[i] = exReader.read(0, name, NONE);
            }
            tokens.take(Words.SEMICOLON, true);
        }

        private long readFactor() {
            long factor = tokens.word();
            if (tokens.kind() == Words.NUMBER && (factor & 1) == 0) {
                tokens.tell(Tokens.BAD_NUMBER, tokens.at);
            }
            tokens.take(Words.NUMBER, true);
            return factor;
        }

        private void readPushOrPop(int kind) {
            int i = emit(kind == Words.PUSH ? Code.PUSH : Code.POP);
            tokens.take(kind, true);
            if (!tokens.isFine() || !readPlace(NONE) || !tokens.take(Words.COMMA, true)) {
                return;
            }
            int token = tokens.at;
            int stack = names.find(tokens.word());
            if (tokens.kind() == Words.NAME && stack == NONE) {
                tokens.tell(Tokens.NAME, token);
            }
            if (!tokens.take(Words.NAME, true)) {
                return;
            }
            if (names.sorts[stack] != Names.STACK || names.bits[stack] != names.bits[placeName]) {
                tokens.tell(Tokens.SORT, token);
            }
            if (program.parts.mention(stack, indexFrom, indexTo)) {
                tokens.tell(Tokens.TWICE, token);
            }
            code.targets[i] = placeName;
            code.indexes[i] = placeIndex;
            code.others[i] = stack;
            tokens.take(Words.SEMICOLON, true);
        }

        private void readAssert() {
            int i = emit(Code.ASSERT);
            tokens.take(Words.ASSERT, true);
            int e = exReader.read(0, NONE, NONE);
            code.giveEx(i, e, NONE);
            tokens.take(Words.SEMICOLON, true);
        }

        private void readIf() {
            int i = emit(Code.IF);
            tokens.take(Words.IF, true);
            int e = exReader.read(0, NONE, NONE);
            code.giveEx(i, e, NONE);
            openBlock(BEHIND_THEN, i, NONE);
        }

        private void readBehindThen() {
            if (tokens.kind() != Words.ELSE) {
                readFi();
                return;
            }
            int i = emit(Code.ELSE);
            tokens.take(Words.ELSE, true);
            openBlock(BEHIND_ELSE, head, i);
        }

        private void readFi() {
            if (tokens.kind() != Words.FI) {
                tokens.tell(Tokens.SYNTAX, tokens.at);
                return;
            }
            int otherwise = middle == NONE ? emit(Code.ELSE) : middle;
            int fi = emit(Code.FI);
            tokens.take(Words.FI, true);
            int e2 = exReader.read(0, NONE, NONE);
            if (tokens.take(Words.SEMICOLON, true)) {
                int e = code.firsts[head];
                code.pair(head, fi, otherwise);
                code.pair(otherwise, fi, head);
                code.pair(fi, head, otherwise);
                code.giveEx(head, e, e2);
                code.giveEx(otherwise, e, e2);
                code.giveEx(fi, e, e2);
            }
            stage = STATEMENTS;
        }

        private void readFrom() {
            head = emit(Code.FROM);
            tokens.take(Words.FROM, true);
            int e = exReader.read(0, NONE, NONE);
            code.giveEx(head, e, NONE);
            stage = BEHIND_DO;
            if (tokens.kind() == Words.DO) {
                tokens.take(Words.DO, true);
                openBlock(BEHIND_DO, head, NONE);
            }
        }

        private void readBehindDo() {
            middle = code.reserve();
            if (tokens.kind() == Words.LOOP) {
                tokens.take(Words.LOOP, true);
                openBlock(BEHIND_LOOP, head, middle);
            } else {
                readUntil();
            }
        }

        private void readUntil() {
            if (tokens.kind() != Words.UNTIL) {
                tokens.tell(Tokens.SYNTAX, tokens.at);
                return;
            }
            putHere(middle, Code.UNTIL);
            int loop = emit(Code.LOOP);
            tokens.take(Words.UNTIL, true);
            int e2 = exReader.read(0, NONE, NONE);
            if (tokens.take(Words.SEMICOLON, true)) {
                int e = code.firsts[head];
                code.pair(head, loop, middle);
                code.pair(middle, loop, head);
                code.pair(loop, head, middle);
                code.giveEx(head, e, e2);
                code.giveEx(middle, e, e2);
                code.giveEx(loop, e, e2);
            }
            stage = STATEMENTS;
        }

        private void readLocal() {
            int i = emit(Code.LOCAL);
            tokens.take(Words.LOCAL, true);
            int bits = readBits();
            long word = readNewName(locals < Names.MOST_LOCALS);
            tokens.take(Words.EQUALS, true);
            int e = exReader.read(0, NONE, NONE);
            openBlock(BEHIND_LOCAL, i, NONE);
            if (tokens.isFine()) {
                int name = names.add(word, Names.SCALAR, bits, Names.LOCAL, locals);
                names.show(name);
                locals++;
                code.giveEx(i, e, NONE);
                code.targets[i] = name;
            }
        }

        private void readDelocal() {
            if (tokens.kind() != Words.DELOCAL) {
                tokens.tell(Tokens.SYNTAX, tokens.at);
                return;
            }
            int i = emit(Code.DELOCAL);
            tokens.take(Words.DELOCAL, true);
            int e2 = exReader.read(0, NONE, NONE);
            if (tokens.take(Words.SEMICOLON, true)) {
                int e = code.firsts[head];
                code.pair(head, i, NONE);
                code.pair(i, head, NONE);
                code.giveEx(head, e, e2);
                code.giveEx(i, e, e2);
                code.targets[i] = code.targets[head];
            }
            stage = STATEMENTS;
        }

        private void readCall(int kind) {
            int i = emit(kind == Words.CALL ? Code.CALL : Code.UNCALL);
            tokens.take(kind, true);
            long word = tokens.word();
            int token = tokens.at;
            if (!tokens.take(Words.NAME, true) || !tokens.take(Words.OPEN, true)) {
                return;
            }
            int procedure = program.findProcedure(word);
            code.values[i] = word;
            code.targets[i] = procedure;
            code.indexes[i] = program.given;
            code.otherIndexes[i] = token;
            int n = 0;
            boolean more = tokens.kind() != Words.CLOSE;
            for (; n <= Tokens.MOST && more; n++) {
                readArgument(i, n, procedure);
                more = tokens.kind() == Words.COMMA && tokens.take(Words.COMMA, true);
            }
            code.others[i] = n;
            int closing = tokens.at;
            tokens.take(Words.CLOSE, true);
            if (procedure != NONE) {
                code.partners[i] = program.begins[procedure];
                tellTooFew(procedure, n, closing);
            }
            tokens.take(Words.SEMICOLON, true);
        }

        private void readArgument(int i, int k, int procedure) {
            int token = tokens.at;
            int name = names.find(tokens.word());
            if (tokens.kind() == Words.NAME && name == NONE) {
                tokens.tell(Tokens.NAME, token);
            }
            if (!tokens.take(Words.NAME, true)) {
                return;
            }
            if (procedure != NONE && !program.fits(procedure, k, name)) {
                tokens.tell(Tokens.SORT, token);
            }
            for (int n = code.indexes[i]; n < program.given; n++) {
                if (program.arguments[n] == name) {
                    tokens.tell(Tokens.TWICE, token);
                }
            }
            if (procedure != NONE && k >= program.params[procedure]) {
                tokens.tell(Tokens.ARGUMENTS, token);
            }
            program.addArgument(name);
        }

        private void tellTooFew(int procedure, int given, int closing) {
            if (given < program.params[procedure]) {
                tokens.tell(Tokens.ARGUMENTS, closing);
            }
        }

        /** Finds the procedures that were called ahead of their text, once all of it is read. */
        void settleCalls() {
            for (int i = 0; i < code.used && tokens.isFine(); i++) {
                boolean isCall = code.instructions[i] == Code.CALL || code.instructions[i] == Code.UNCALL;
                if (isCall && code.targets[i] == NONE) {
                    settle(i);
                }
            }
        }

        private void settle(int i) {
            int procedure = program.findProcedure(code.values[i]);
            int token = code.otherIndexes[i];
            if (procedure == NONE) {
                tokens.tell(Tokens.NAME, token);
                return;
            }
            int given = code.others[i];
            // Behind the NAME stand ( and the arguments, a comma behind each but the last.
            for (int k = 0; k < given; k++) {
                int name = program.arguments[code.indexes[i] + k];
                int itsToken = token + 2 + 2 * k;
                if (!program.fits(procedure, k, name)) {
                    tokens.tell(Tokens.SORT, itsToken);
                }
                if (k >= program.params[procedure]) {
                    tokens.tell(Tokens.ARGUMENTS, itsToken);
                }
            }
            tellTooFew(procedure, given, given == 0 ? token + 2 : token + 1 + 2 * given);
            code.targets[i] = procedure;
            code.partners[i] = program.begins[procedure];
        }
    }

    /** The numbers of what is declared, the LOCALS and the FRAMES. */
    private static final class Store {
        static final int MOST_FRAMES = 40;
        static final int MOST_LOCALS = 200;
        static final int FIRST_LOCAL = Names.MOST_DECLARED + Names.MOST_NUMBERS;

        private final long[] numbers = new long[FIRST_LOCAL + MOST_LOCALS];
        private final int[] bases = new int[Names.MOST_DECLARED];
        private final int[] heights = new int[Names.MOST_DECLARED];
        // Of each FRAME: its procedure, the INSTRUCTION that made it, the LOCALS ahead of it.
        private final int[] procedures = new int[MOST_FRAMES];
        private final int[] makers = new int[MOST_FRAMES];
        private final int[] ahead = new int[MOST_FRAMES];
        // Whether STEPS on go on within it.
        private final boolean[] goesOn = new boolean[MOST_FRAMES];
        // What each param stands for: what is declared by its number, behind those the LOCALS.
        private final int[] bindings = new int[MOST_FRAMES * Names.MOST_PARAMS];
        private int frames;
        private int locals;

        void clear(Names names) {
            Arrays.fill(numbers, 0);
            Arrays.fill(heights, 0);
            frames = 0;
            locals = 0;
            int base = 0;
            for (int v = 0; v < names.declared; v++) {
                bases[v] = base;
                base += names.lengths[v];
            }
        }

        /** A FRAME more, for whose params the caller has written the bindings. */
        void addFrame(int procedure, int maker, boolean isOn) {
            if (frames < MOST_FRAMES) {
                procedures[frames] = procedure;
                makers[frames] = maker;
                ahead[frames] = locals;
                goesOn[frames] = isOn;
                frames++;
            }
        }

        /** What a NAME stands for in the innermost FRAME. */
        int meaning(Names names, int name) {
            int rank = names.ranks[name];
            int top = frames - 1;
            if (names.homes[name] == Names.DECLARED || top < 0) {
                return rank;
            }
            if (names.homes[name] == Names.PARAM) {
                return bindings[top * Names.MOST_PARAMS + rank];
            }
            return Names.MOST_DECLARED + ahead[top] + rank;
        }

        /** Where the first number is of what a NAME stands for. */
        int baseOf(int meaning) {
            return meaning < Names.MOST_DECLARED ? bases[meaning] : FIRST_LOCAL + meaning - Names.MOST_DECLARED;
        }
    }

    /** The machine: a RUN of a program, a STEP at a time. */
    private static final class Machine {
        static final int TEST = 1;
        static final int INDEX = 2;
        static final int ZERO = 3;
        static final int EMPTY = 4;
        static final int FULL_STACK = 5;
        static final int TAKEN = 6;
        static final int LEFT = 7;
        static final int DEEP = 8;
        static final int NO_ROOM = 9;

        private final Store store = new Store();
        private Program program = new Program();
        private Names names = program.names;
        private Parts parts = program.parts;
        private Code code = program.code;
        private boolean running;
        private int goal;
        private int position;
        private int next;
        private int steps;
        private int failure;
        private int failedAt = NONE;

        /** Takes a program, with all its numbers 0 and no RUN. */
        void accept(Program another) {
            program = another;
            names = another.names;
            parts = another.parts;
            code = another.code;
            store.clear(names);
            running = false;
        }

        static long narrow(long x, int bits) {
            int unused = 64 - bits;
            return x << unused >> unused;
        }

        /** How many numbers that which is declared has now. */
        int amount(int v) {
            return names.sorts[v] == Names.STACK ? store.heights[v] : names.lengths[v];
        }

        void start(boolean backwards) {
            int behindBegin = program.mainBegin + 1;
            int atEnd = code.partners[program.mainBegin];
            position = backwards ? atEnd : behindBegin;
            goal = backwards ? behindBegin : atEnd;
            store.frames = 0;
            store.locals = 0;
            store.addFrame(NONE, NONE, !backwards);
            steps = 0;
            failure = 0;
            failedAt = NONE;
            running = true;
        }

        int stop() {
            running = false;
            store.frames = 0;
            store.locals = 0;
            return steps;
        }

        boolean isEnded() {
            return position == goal && store.frames == 1;
        }

        int tell(int what) {
            switch (what) {
                case 0:
                    return failure != 0 ? 3 : isEnded() ? 2 : 1;
                case 1:
                    return failure;
                case 2:
                    return failedAt;
                case 3:
                    return steps;
                case 4:
                    return position;
                case 5:
                    return isOn() ? 1 : 0;
                case 6:
                    return store.frames;
                case 7:
                    return store.locals;
                default:
                    return NONE;
            }
        }

        private boolean isOn() {
            return store.frames > 0 && store.goesOn[store.frames - 1];
        }

        /** Does n STEPS on, or takes -n back, as many as can be: how many. */
        int go(int n, int mostSteps) {
            failure = 0;
            failedAt = NONE;
            int wanted = Math.abs(n);
            int done = 0;
            for (int k = 0; k < wanted && failure == 0; k++) {
                boolean can = n > 0 ? steps < mostSteps && !isEnded() : steps > 0;
                if (!can) {
                    return done;
                }
                boolean on = isOn() == n > 0;
                int i = on ? position : position - 1;
                if (i < 0 || i >= code.used) {
                    return done;
                }
                next = on ? i + 1 : i;
                act(i, on);
                if (failure == 0) {
                    position = next;
                    steps += n > 0 ? 1 : -1;
                    done++;
                } else {
                    failedAt = code.places[i];
                }
            }
            return done;
        }

        /** Does an INSTRUCTION, or undoes it; what fails must not have changed anything. */
        private void act(int i, boolean on) {
            switch (code.instructions[i]) {
                case Code.UPDATE:
                    update(i, on);
                    break;
                case Code.SWAP:
                    exchange(i);
                    break;
                case Code.PUSH:
                case Code.POP:
                    if (on == (code.instructions[i] == Code.PUSH)) {
                        push(i);
                    } else {
                        pop(i);
                    }
                    break;
                case Code.IF:
                case Code.ELSE:
                case Code.FI:
                case Code.FROM:
                case Code.UNTIL:
                case Code.LOOP:
                    decide(i, on, worth(decidingEx(i, on), 1) != 0);
                    break;
                case Code.LOCAL:
                case Code.DELOCAL:
                    int e = code.instructions[i] == Code.LOCAL ? code.firsts[i] : code.seconds[i];
                    if (on == (code.instructions[i] == Code.LOCAL)) {
                        addLocal(i, e);
                    } else {
                        removeLocal(i, e);
                    }
                    break;
                case Code.CALL:
                case Code.UNCALL:
                    enter(i, on);
                    break;
                case Code.BEGIN:
                case Code.END:
                    leave(on);
                    break;
                case Code.ASSERT:
                    test(worth(code.firsts[i], 1) != 0);
                    break;
                default:
                    break;
            }
        }

        private void fail(int kind) {
            if (failure == 0) {
                failure = kind;
            }
        }

        private void test(boolean holds) {
            if (!holds) {
                fail(TEST);
            }
        }

        private void update(int i, boolean on) {
            int bits = names.bits[code.targets[i]];
            int slot = slotOf(code.targets[i], code.indexes[i], 0);
            long e = code.firsts[i] == NONE ? code.values[i] : worth(code.firsts[i], 1);
            if (failure == 0 && slot != NONE) {
                int operator = on ? code.operators[i] : Words.undoing(code.operators[i]);
                store.numbers[slot] = updated(store.numbers[slot], operator, e, bits);
            }
        }

        private static long updated(long x, int operator, long e, int bits) {
            switch (operator) {
                case Words.ADD_TO:
                    return narrow(x + e, bits);
                case Words.TAKE_FROM:
                    return narrow(x - e, bits);
                case Words.XOR_INTO:
                    return narrow(x ^ e, bits);
                case Words.TIMES_BY:
                    return narrow(x * e, bits);
                case Words.OVER_BY:
                    return narrow(x * inverseOf(e), bits);
                case Words.TURN_LEFT:
                    return turned(x, e, bits);
                default:
                    return turned(x, -e, bits);
            }
        }

        /** The number whose product with an odd one is 1: each round doubles the bits that are right, from 3 on. */
        private static long inverseOf(long odd) {
            long inverse = odd;
            for (int round = 0; round < 5; round++) {
                inverse *= 2 - odd * inverse;
            }
            return inverse;
        }

        /** The lowest bits of x, turned to the left by e. */
        private static long turned(long x, long e, int bits) {
            int by = (int) (e & (bits - 1));
            if (by == 0) {
                return x;
            }
            long unsigned = bits == 64 ? x : x & ((1L << bits) - 1);
            return narrow(unsigned << by | unsigned >>> (bits - by), bits);
        }

        private void exchange(int i) {
            int slot = slotOf(code.targets[i], code.indexes[i], 0);
            int other = slotOf(code.others[i], code.otherIndexes[i], 0);
            if (failure == 0 && slot != NONE && other != NONE) {
                long x = store.numbers[slot];
                store.numbers[slot] = store.numbers[other];
                store.numbers[other] = x;
            }
        }

        private void push(int i) {
            int slot = slotOf(code.targets[i], code.indexes[i], 0);
            int stack = store.meaning(names, code.others[i]);
            if (failure != 0 || slot == NONE || !isStack(stack)) {
                return;
            }
            int height = store.heights[stack];
            if (height >= names.lengths[stack]) {
                fail(FULL_STACK);
                return;
            }
            store.numbers[store.bases[stack] + height] = store.numbers[slot];
            store.numbers[slot] = 0;
            store.heights[stack] = height + 1;
        }

        private void pop(int i) {
            int slot = slotOf(code.targets[i], code.indexes[i], 0);
            int stack = store.meaning(names, code.others[i]);
            if (failure != 0 || slot == NONE || !isStack(stack)) {
                return;
            }
            int height = store.heights[stack];
            if (height < 1) {
                fail(EMPTY);
            } else if (store.numbers[slot] != 0) {
                fail(TAKEN);
            } else {
                store.numbers[slot] = store.numbers[store.bases[stack] + height - 1];
                store.heights[stack] = height - 1;
            }
        }

        private boolean isStack(int meaning) {
            return meaning >= 0 && meaning < names.declared && names.sorts[meaning] == Names.STACK;
        }

        private int decidingEx(int i, boolean on) {
            switch (code.instructions[i]) {
                case Code.IF:
                case Code.FROM:
                    return code.firsts[i];
                case Code.FI:
                case Code.UNTIL:
                    return code.seconds[i];
                case Code.ELSE:
                    return on ? code.seconds[i] : code.firsts[i];
                default:
                    return on ? code.firsts[i] : code.seconds[i];
            }
        }

        private void decide(int i, boolean on, boolean isTrue) {
            int partner = code.partners[i];
            int middle = code.middles[i];
            switch (code.instructions[i]) {
                case Code.IF:
                    test(on || isTrue);
                    next = on && !isTrue ? middle + 1 : next;
                    break;
                case Code.ELSE:
                    test(on == isTrue);
                    next = on ? partner + 1 : middle;
                    break;
                case Code.FI:
                    test(!on || !isTrue);
                    next = !on && isTrue ? middle : next;
                    break;
                case Code.FROM:
                    test(!on || isTrue);
                    next = !on && !isTrue ? partner : next;
                    break;
                case Code.UNTIL:
                    test(on || !isTrue);
                    next = on && isTrue ? partner + 1 : next;
                    break;
                default:
                    test(on != isTrue);
                    next = on ? partner + 1 : middle;
                    break;
            }
        }

        private void addLocal(int i, int part) {
            long e = worth(part, 1);
            if (failure == 0 && store.locals >= Store.MOST_LOCALS) {
                fail(NO_ROOM);
            }
            if (failure == 0) {
                store.numbers[Store.FIRST_LOCAL + store.locals] = narrow(e, names.bits[code.targets[i]]);
                store.locals++;
            }
        }

        private void removeLocal(int i, int part) {
            long e = worth(part, 1);
            if (failure != 0 || store.locals < 1) {
                return;
            }
            long x = store.numbers[Store.FIRST_LOCAL + store.locals - 1];
            if (x != narrow(e, names.bits[code.targets[i]])) {
                fail(LEFT);
            } else {
                store.locals--;
            }
        }

        private void enter(int i, boolean on) {
            int procedure = code.targets[i];
            if (store.frames >= Store.MOST_FRAMES) {
                fail(DEEP);
            }
            if (failure != 0 || !program.isProcedure(procedure)) {
                return;
            }
            int binding = store.frames * Names.MOST_PARAMS;
            for (int k = 0; k < code.others[i] && k < Names.MOST_PARAMS; k++) {
                store.bindings[binding + k] = store.meaning(names, program.arguments[code.indexes[i] + k]);
            }
            boolean same = code.instructions[i] == Code.CALL;
            store.addFrame(procedure, i, same == isOn());
            int begin = program.begins[procedure];
            next = same == on ? begin + 1 : code.partners[begin];
        }

        private void leave(boolean on) {
            if (store.frames < 2) {
                return;
            }
            store.frames--;
            int maker = store.makers[store.frames];
            boolean same = code.instructions[maker] == Code.CALL;
            next = same == on ? maker + 1 : maker;
        }

        /** Where the number of a place is; NONE, and the STEP fails, if there is none such. */
        private int slotOf(int name, int index, int depth) {
            int meaning = store.meaning(names, name);
            int base = store.baseOf(meaning);
            if (index == NONE) {
                return base;
            }
            long i = worth(index, depth + 1);
            if (failure == 0 && (i < 0 || i >= lengthOf(meaning))) {
                fail(INDEX);
            }
            return failure == 0 ? base + (int) i : NONE;
        }

        private int lengthOf(int meaning) {
            return meaning < names.declared ? names.lengths[meaning] : 1;
        }

        /** Works out an ex; once something has failed, what it gives is not used. */
        private long worth(int part, int depth) {
            if (failure != 0 || depth > Parts.HIGHEST || !parts.isThere(part)) {
                return 0;
            }
            int operator = parts.operators[part];
            int left = parts.lefts[part];
            int right = parts.rights[part];
            switch (operator) {
                case Words.NUMBER:
                    return parts.values[part];
                case Words.SCALAR_PART:
                case Words.ROW_PART:
                    int slot = slotOf(left, right, depth);
                    return slot == NONE ? 0 : store.numbers[slot];
                case Words.TOP:
                case Words.SIZE:
                case Words.EMPTY:
                    return measure(operator, store.meaning(names, left));
                case Words.NEGATIVE:
                    return -worth(left, depth + 1);
                case Words.TILDE:
                    return ~worth(left, depth + 1);
                case Words.NOT:
                    return worth(left, depth + 1) == 0 ? 1 : 0;
                case Words.BOTH:
                    return worth(left, depth + 1) != 0 && worth(right, depth + 1) != 0 ? 1 : 0;
                case Words.EITHER:
                    return worth(left, depth + 1) != 0 || worth(right, depth + 1) != 0 ? 1 : 0;
                default:
                    long x = worth(left, depth + 1);
                    long y = worth(right, depth + 1);
                    if (y == 0 && (operator == Words.OVER || operator == Words.REST)) {
                        fail(ZERO);
                        return 0;
                    }
                    return reckon(operator, x, y);
            }
        }

        private long measure(int operator, int meaning) {
            if (operator == Words.SIZE) {
                return isStack(meaning) ? store.heights[meaning] : lengthOf(meaning);
            }
            if (!isStack(meaning)) {
                return 0;
            }
            int height = store.heights[meaning];
            if (operator == Words.EMPTY) {
                return height == 0 ? 1 : 0;
            }
            if (height == 0) {
                fail(EMPTY);
                return 0;
            }
            return store.numbers[store.bases[meaning] + height - 1];
        }

        private static long reckon(int operator, long x, long y) {
            switch (operator) {
                case Words.PLUS:
                    return x + y;
                case Words.MINUS:
                    return x - y;
                case Words.TIMES:
                    return x * y;
                case Words.OVER:
                    return y == 0 ? 0 : x / y;
                case Words.REST:
                    return y == 0 ? 0 : x % y;
                case Words.AND:
                    return x & y;
                case Words.OR:
                    return x | y;
                case Words.XOR:
                    return x ^ y;
                case Words.LEFT:
                    return x << y;
                case Words.RIGHT:
                    return x >> y;
                case Words.UNSIGNED_RIGHT:
                    return x >>> y;
                default:
                    return compare(operator, x, y) ? 1 : 0;
            }
        }

        private static boolean compare(int operator, long x, long y) {
            switch (operator) {
                case Words.SAME:
                    return x == y;
                case Words.OTHER:
                    return x != y;
                case Words.LESS:
                    return x < y;
                case Words.AT_MOST:
                    return x <= y;
                case Words.MORE:
                    return x > y;
                default:
                    return x >= y;
            }
        }
    }

    /** Writes a program, or its inverse. */
    private static final class Writer {
        private static final int MOST = 12000;
        private static final int MOST_DIGITS = 20;

        private final Words spelling = new Words();
        private final int[] digits = new int[MOST_DIGITS];
        // What does not fit must leave OUT as it is, so that bytes come to the spare row first.
        private byte[] out = new byte[MOST];
        private byte[] spare = new byte[MOST];
        private int outLength;
        private int length;
        private boolean isInverse;
        private Program program;
        private Names names;
        private Parts parts;
        private Code code;

        /** Makes OUT of the program: false, and OUT stays, when there is no room. */
        boolean compose(Program written, boolean inverse) {
            program = written;
            names = written.names;
            parts = written.parts;
            code = written.code;
            isInverse = inverse;
            length = 0;
            for (int v = 0; v < names.declared; v++) {
                declare(v);
            }
            for (int p = 0; p < program.procedures; p++) {
                heading(p);
                body(program.begins[p]);
            }
            quoted(Words.MAIN);
            body(program.mainBegin);
            if (length > MOST) {
                return false;
            }
            byte[] composed = spare;
            spare = out;
            out = composed;
            outLength = length;
            return true;
        }

        private void declare(int v) {
            kindAndName(v);
            if (names.sorts[v] != Names.SCALAR) {
                sign(Words.OPEN_ROW);
                number(names.lengths[v]);
                sign(Words.CLOSE_ROW);
            }
            sign(Words.SEMICOLON);
        }

        private void kindAndName(int name) {
            if (names.sorts[name] == Names.STACK) {
                quoted(Words.STACK);
            }
            quoted(Words.kindOfBits(names.bits[name]));
            word(names.words[name]);
        }

        private void heading(int p) {
            quoted(Words.PROC);
            word(program.words[p]);
            sign(Words.OPEN);
            for (int k = 0; k < program.params[p]; k++) {
                if (k > 0) {
                    sign(Words.COMMA);
                }
                int name = program.firstParams[p] + k;
                kindAndName(name);
                if (names.sorts[name] == Names.ROW) {
                    sign(Words.OPEN_ROW);
                    sign(Words.CLOSE_ROW);
                }
            }
            sign(Words.CLOSE);
        }

        /** A block from its BEGIN to its END, each INSTRUCTION's piece of the text one behind the other. */
        private void body(int begin) {
            int end = code.partners[begin];
            int i = isInverse ? end : begin;
            for (int n = begin; n <= end && code.isThere(i); n++) {
                int role = isInverse ? inverseRole(code.instructions[i]) : code.instructions[i];
                if (role >= Code.IF && role <= Code.DELOCAL) {
                    pieceWithBlocks(i, role);
                } else if (role == Code.UPDATE || role == Code.SWAP) {
                    change(i);
                } else {
                    piece(i, role);
                }
                i = isInverse ? nextInverse(i) : i + 1;
            }
        }

        /** Which INSTRUCTION's piece stands in the inverse where one goes backwards over this one. */
        private static int inverseRole(int instruction) {
            switch (instruction) {
                case Code.BEGIN:
                    return Code.END;
                case Code.END:
                    return Code.BEGIN;
                case Code.FI:
                    return Code.IF;
                case Code.IF:
                    return Code.ELSE;
                case Code.ELSE:
                    return Code.FI;
                case Code.LOOP:
                    return Code.FROM;
                case Code.FROM:
                    return Code.UNTIL;
                case Code.UNTIL:
                    return Code.LOOP;
                case Code.LOCAL:
                    return Code.DELOCAL;
                case Code.DELOCAL:
                    return Code.LOCAL;
                case Code.PUSH:
                    return Code.POP;
                case Code.POP:
                    return Code.PUSH;
                default:
                    return instruction;
            }
        }

        /** Blocks go backwards, but the first block of a statement stays ahead of the second one. */
        private int nextInverse(int i) {
            switch (code.instructions[i]) {
                case Code.IF:
                case Code.FROM:
                    return code.partners[i] - 1;
                case Code.ELSE:
                case Code.FI:
                case Code.UNTIL:
                case Code.LOOP:
                    return code.middles[i] - 1;
                default:
                    return i - 1;
            }
        }

        private void piece(int i, int role) {
            switch (role) {
                case Code.BEGIN:
                    sign(Words.OPEN_BLOCK);
                    break;
                case Code.END:
                    sign(Words.CLOSE_BLOCK);
                    break;
                case Code.PUSH:
                case Code.POP:
                    quoted(role == Code.PUSH ? Words.PUSH : Words.POP);
                    place(code.targets[i], code.indexes[i], 0);
                    sign(Words.COMMA);
                    word(names.words[code.others[i]]);
                    sign(Words.SEMICOLON);
                    break;
                case Code.CALL:
                case Code.UNCALL:
                    invocation(i);
                    break;
                case Code.ASSERT:
                    quoted(Words.ASSERT);
                    ex(code.firsts[i], 1);
                    sign(Words.SEMICOLON);
                    break;
                default:
                    quoted(Words.SKIP);
                    sign(Words.SEMICOLON);
                    break;
            }
        }

        /** What an if, from or local has ahead of its blocks, between them and behind them. */
        private void pieceWithBlocks(int i, int role) {
            int e = isInverse ? code.seconds[i] : code.firsts[i];
            int e2 = isInverse ? code.firsts[i] : code.seconds[i];
            if (role != Code.IF && role != Code.FROM && role != Code.LOCAL) {
                sign(Words.CLOSE_BLOCK);
            }
            switch (role) {
                case Code.IF:
                    quoted(Words.IF);
                    ex(e, 1);
                    sign(Words.OPEN_BLOCK);
                    break;
                case Code.FROM:
                    quoted(Words.FROM);
                    ex(e, 1);
                    quoted(Words.DO);
                    sign(Words.OPEN_BLOCK);
                    break;
                case Code.LOCAL:
                    quoted(Words.LOCAL);
                    kindAndName(code.targets[i]);
                    sign(Words.EQUALS);
                    ex(e, 1);
                    sign(Words.OPEN_BLOCK);
                    break;
                case Code.ELSE:
                case Code.UNTIL:
                    quoted(role == Code.ELSE ? Words.ELSE : Words.LOOP);
                    sign(Words.OPEN_BLOCK);
                    break;
                default:
                    quoted(endingWord(role));
                    ex(e2, 1);
                    sign(Words.SEMICOLON);
                    break;
            }
        }

        private static int endingWord(int role) {
            if (role == Code.FI) {
                return Words.FI;
            }
            return role == Code.LOOP ? Words.UNTIL : Words.DELOCAL;
        }

        private void change(int i) {
            int operator = code.operators[i];
            place(code.targets[i], code.indexes[i], 0);
            sign(isInverse ? Words.undoing(operator) : operator);
            if (operator == Words.SWAP) {
                place(code.others[i], code.otherIndexes[i], 0);
            } else if (Words.isByNumber(operator)) {
                number(code.values[i]);
            } else {
                ex(code.firsts[i], 1);
            }
            sign(Words.SEMICOLON);
        }

        private void invocation(int i) {
            quoted(code.instructions[i] == Code.CALL ? Words.CALL : Words.UNCALL);
            word(code.values[i]);
            sign(Words.OPEN);
            for (int k = 0; k < code.others[i]; k++) {
                if (k > 0) {
                    sign(Words.COMMA);
                }
                word(names.words[program.arguments[code.indexes[i] + k]]);
            }
            sign(Words.CLOSE);
            sign(Words.SEMICOLON);
        }

        private void place(int name, int index, int depth) {
            word(names.words[name]);
            if (index != NONE) {
                sign(Words.OPEN_ROW);
                ex(index, depth + 1);
                sign(Words.CLOSE_ROW);
            }
        }

        private void ex(int part, int depth) {
            if (depth > Parts.HIGHEST || !parts.isThere(part)) {
                return;
            }
            int operator = parts.operators[part];
            int left = parts.lefts[part];
            int right = parts.rights[part];
            switch (operator) {
                case Words.NUMBER:
                    number(parts.values[part]);
                    break;
                case Words.SCALAR_PART:
                case Words.ROW_PART:
                    place(left, right, depth);
                    break;
                case Words.TOP:
                case Words.SIZE:
                case Words.EMPTY:
                    word(spelling.wordOf(operator));
                    sign(Words.OPEN);
                    word(names.words[left]);
                    sign(Words.CLOSE);
                    break;
                case Words.NEGATIVE:
                case Words.TILDE:
                case Words.NOT:
                    sign(Words.OPEN);
                    sign(operator == Words.NEGATIVE ? Words.MINUS : operator);
                    ex(left, depth + 1);
                    sign(Words.CLOSE);
                    break;
                default:
                    sign(Words.OPEN);
                    ex(left, depth + 1);
                    sign(operator);
                    ex(right, depth + 1);
                    sign(Words.CLOSE);
                    break;
            }
        }

        private void quoted(int kind) {
            word(spelling.wordOf(kind));
        }

        // Behind each token stands one byte: a line end behind ; { and }, a blank behind all others. As each line ends
        // with one of these three, there is no blank too many.
        private void word(long word) {
            for (int k = Words.lengthOf(word) - 1; k >= 0; k--) {
                put(Words.byteFromEnd(word, k));
            }
            put(' ');
        }

        private void sign(int kind) {
            int bytes = Words.bytesOfSign(kind);
            for (int shift = 16; shift >= 0; shift -= 8) {
                int b = bytes >> shift & 255;
                if (b != 0) {
                    put(b);
                }
            }
            boolean isLast = kind == Words.SEMICOLON || kind == Words.OPEN_BLOCK || kind == Words.CLOSE_BLOCK;
            put(isLast ? '\n' : ' ');
        }

        private void number(long number) {
            long left = number;
            int n = 0;
            do {
                digits[n] = (int) (left % 10);
                left /= 10;
                n++;
            } while (left > 0 && n < MOST_DIGITS);
            for (int k = n - 1; k >= 0; k--) {
                put('0' + digits[k]);
            }
            put(' ');
        }

        private void put(int b) {
            if (length < MOST) {
                spare[length] = (byte) b;
            }
            length++;
        }
    }
}
