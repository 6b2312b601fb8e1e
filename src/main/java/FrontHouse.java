/**
 * A house that reads classes by the Java Language Specification, Java SE 17.
 *
 * The text goes Words (signs, tokens) - Parser (tree, limits) - Heads (declarations) -
 * Bodies with Chooser (names, types, calls) - Flow (what is reached, thrown,
 * assigned) - Coder (steps for the machine) - Machine (runs). Every table is a Rows object
 * made once in a constructor: a call makes no objects.
 */
public final class FrontHouse {
    public static final int NONE = -1;

    private static final int TAPE = 3000;
    private static final int MANY = 1000000;

    // tokens
    private static final int T_DEAD = -1;
    private static final int T_END = 0;
    private static final int T_BAD = 1;
    private static final int T_REFUSED = 2;
    private static final int T_NAME = 3;
    private static final int T_INT = 4;
    private static final int T_LONG = 5;
    private static final int T_CHAR = 6;
    private static final int T_INTMIN = 7;
    private static final int T_LONGMIN = 8;
    private static final int T_LPAREN = 10;
    private static final int T_RPAREN = 11;
    private static final int T_LBRACE = 12;
    private static final int T_RBRACE = 13;
    private static final int T_LBRACK = 14;
    private static final int T_RBRACK = 15;
    private static final int T_SEMI = 16;
    private static final int T_COMMA = 17;
    private static final int T_DOT = 18;
    private static final int T_ELLIPSIS = 19;
    private static final int T_QUEST = 20;
    private static final int T_COLON = 21;
    private static final int T_NOT = 22;
    private static final int T_TILDE = 23;
    private static final int T_INC = 24;
    private static final int T_DEC = 25;
    private static final int T_OROR = 30;
    private static final int T_ANDAND = 31;
    private static final int T_OR = 32;
    private static final int T_XOR = 33;
    private static final int T_AND = 34;
    private static final int T_EQ = 35;
    private static final int T_NE = 36;
    private static final int T_LT = 37;
    private static final int T_LE = 38;
    private static final int T_GE = 39;
    private static final int T_GT = 40;
    private static final int T_SHL = 41;
    private static final int T_SHR = 42;
    private static final int T_USHR = 43;
    private static final int T_PLUS = 44;
    private static final int T_MINUS = 45;
    private static final int T_STAR = 46;
    private static final int T_SLASH = 47;
    private static final int T_PERCENT = 48;
    private static final int T_ASSIGN = 50;
    private static final int T_STARA = 51;
    private static final int T_SLASHA = 52;
    private static final int T_PERCENTA = 53;
    private static final int T_PLUSA = 54;
    private static final int T_MINUSA = 55;
    private static final int T_SHLA = 56;
    private static final int T_SHRA = 57;
    private static final int T_USHRA = 58;
    private static final int T_ANDA = 59;
    private static final int T_XORA = 60;
    private static final int T_ORA = 61;
    private static final int T_WORD = 70;
    private static final int T_ABSTRACT = 70;
    private static final int T_BOOLEAN = 71;
    private static final int T_BREAK = 72;
    private static final int T_BYTE = 73;
    private static final int T_CASE = 74;
    private static final int T_CATCH = 75;
    private static final int T_CHARW = 76;
    private static final int T_CLASS = 77;
    private static final int T_CONTINUE = 79;
    private static final int T_DEFAULT = 80;
    private static final int T_DO = 81;
    private static final int T_ELSE = 82;
    private static final int T_EXTENDS = 83;
    private static final int T_FINAL = 84;
    private static final int T_FINALLY = 85;
    private static final int T_FOR = 86;
    private static final int T_IF = 88;
    private static final int T_IMPLEMENTS = 89;
    private static final int T_INSTANCEOF = 90;
    private static final int T_INTW = 91;
    private static final int T_INTERFACE = 92;
    private static final int T_LONGW = 93;
    private static final int T_NEW = 94;
    private static final int T_PRIVATE = 95;
    private static final int T_PROTECTED = 96;
    private static final int T_PUBLIC = 97;
    private static final int T_RETURN = 98;
    private static final int T_SHORT = 99;
    private static final int T_STATIC = 100;
    private static final int T_SUPER = 101;
    private static final int T_SWITCH = 102;
    private static final int T_THIS = 103;
    private static final int T_THROW = 104;
    private static final int T_THROWS = 105;
    private static final int T_TRY = 106;
    private static final int T_VOID = 107;
    private static final int T_WHILE = 108;
    private static final int T_TRUE = 110;
    private static final int T_FALSE = 111;
    private static final int T_NULL = 112;

    // the names that are known ahead of any text get their numbers by their order, from 1 on
    private static final String WORDS = "abstract boolean break byte case catch char class const continue default do else extends final finally for goto if implements instanceof int interface long new private protected public return short static super switch this throw throws try void while _ true false null";
    private static final String REFUSED_WORDS = "assert double enum float import native package strictfp synchronized transient volatile var yield record sealed permits";
    private static final String BUILT_IN = "Object Throwable Exception Error RuntimeException ArithmeticException ArrayIndexOutOfBoundsException ArrayStoreException ClassCastException NegativeArraySizeException NullPointerException ExceptionInInitializerError NoClassDefFoundError Boolean Byte Short Character Integer Long In Out";
    private static final String OTHER_NAMES = "put next length main Main";
    private static final int WORD_COUNT = 43;
    private static final int LAST_REFUSED = 59;
    private static final int NAME_OBJECT = 60;
    private static final int NAME_PUT = 81;
    private static final int NAME_NEXT = 82;
    private static final int NAME_LENGTH = 83;
    private static final int NAME_MAIN = 84;
    private static final int NAME_MAINKIND = 85;

    // columns of a node
    private static final int KD = 0;
    private static final int PL = 1;
    private static final int CA = 2;
    private static final int CB = 3;
    private static final int CC = 4;
    private static final int CD = 5;
    private static final int NX = 6;
    private static final int NM = 7;
    private static final int OP = 8;
    private static final int FL = 9;
    private static final int FI = 10;
    private static final int TY = 11;
    private static final int CV = 12;
    private static final int SY = 13;
    private static final int TG = 14;
    private static final int LO = 15;
    private static final int HI = 16;
    private static final int XT = 17;
    private static final int NODE_WIDTH = 18;

    // kinds of nodes: expressions, statements, others
    private static final int E_NAME = 1;
    private static final int E_LIT = 2;
    private static final int E_THIS = 3;
    private static final int E_FIELD = 4;
    private static final int E_SUPER = 5;
    private static final int E_CALL = 6;
    private static final int E_NEW = 7;
    private static final int E_ARRAY = 8;
    private static final int E_ARRAYINIT = 9;
    private static final int E_INIT = 10;
    private static final int E_ELEM = 11;
    private static final int E_PRE = 12;
    private static final int E_PREINC = 13;
    private static final int E_POSTINC = 14;
    private static final int E_CAST = 15;
    private static final int E_BIN = 16;
    private static final int E_IS = 17;
    private static final int E_COND = 18;
    private static final int E_ASSIGN = 19;
    private static final int S_BLOCK = 30;
    private static final int S_EMPTY = 31;
    private static final int S_LOCAL = 32;
    private static final int S_EXP = 33;
    private static final int S_IF = 34;
    private static final int S_WHILE = 35;
    private static final int S_DO = 36;
    private static final int S_FOR = 37;
    private static final int S_EACH = 38;
    private static final int S_BREAK = 39;
    private static final int S_CONT = 40;
    private static final int S_RETURN = 41;
    private static final int S_THROW = 42;
    private static final int S_TRY = 43;
    private static final int S_CATCH = 44;
    private static final int S_SWITCH = 45;
    private static final int S_CASE = 46;
    private static final int S_DEFAULT = 47;
    private static final int S_LABEL = 48;
    private static final int S_THIS = 49;
    private static final int S_SUPER = 50;
    private static final int X_TYPE = 60;
    private static final int X_DECL = 61;
    private static final int X_MOD = 62;

    // flags of a node
    private static final int PAREN = 1;
    private static final int CONST = 2;
    private static final int FINAL_DECL = 4;
    private static final int DOTS = 8;
    private static final int BROKEN = 16;
    private static final int CONTINUED = 32;
    private static final int STUCK = 64;
    private static final int MARKED = 128;
    private static final int IS_EXP = 256;
    /** Put together as a constant is, but ends abruptly: no constant, though a whole around it may be one. */
    private static final int ABRUPT = 512;

    // columns of a kind
    private static final int K_NAME = 0;
    private static final int K_PLACE = 1;
    private static final int K_FLAGS = 2;
    private static final int K_MODS = 3;
    private static final int K_EXT = 4;
    private static final int K_IMPL = 5;
    private static final int K_SCOPE = 6;
    private static final int K_VAR0 = 7;
    private static final int K_VARS = 8;
    private static final int K_F0 = 9;
    private static final int K_F1 = 10;
    private static final int K_M0 = 11;
    private static final int K_M1 = 12;
    private static final int K_OWN = 13;
    private static final int K_ARGS = 14;
    private static final int K_PARENT = 15;
    private static final int K_MEM0 = 16;
    private static final int K_MEM1 = 17;
    private static final int K_CTOR = 19;
    private static final int K_DONE = 20;
    private static final int K_TWICE = 21;
    private static final int K_PTYPE = 22;
    private static final int K_INIT = 24;
    private static final int K_BLANKS = 25;
    private static final int KIND_WIDTH = 26;

    // columns of a method or constructor
    private static final int M_NAME = 0;
    private static final int M_PLACE = 1;
    private static final int M_KIND = 2;
    private static final int M_FLAGS = 3;
    private static final int M_MODS = 4;
    private static final int M_RESULT = 5;
    private static final int M_FORMALS = 6;
    private static final int M_COUNT = 7;
    private static final int M_THROWS = 8;
    private static final int M_BODY = 9;
    private static final int M_LOCALS = 10;
    private static final int M_SCOPE = 11;
    private static final int M_VAR0 = 12;
    private static final int M_VARS = 13;
    private static final int M_NUM = 14;
    private static final int M_TYPE = 15;
    private static final int M_FTYPES = 16;
    private static final int M_ARGS = 17;
    private static final int M_CALLS = 18;
    private static final int M_PHASE = 19;
    private static final int M_VIEW = 20;
    private static final int METHOD_WIDTH = 23;

    // columns of a field
    private static final int F_NAME = 0;
    private static final int F_PLACE = 1;
    private static final int F_KIND = 2;
    private static final int F_FLAGS = 3;
    private static final int F_MODS = 4;
    private static final int F_TNODE = 5;
    private static final int F_DIMS = 6;
    private static final int F_TYPE = 7;
    private static final int F_INIT = 8;
    private static final int F_SLOT = 9;
    private static final int F_BIT = 10;
    private static final int F_CONST = 11;
    private static final int F_LO = 12;
    private static final int F_HI = 13;
    private static final int FIELD_WIDTH = 14;

    // columns of a type's variable, a scope, a local
    private static final int V_NAME = 0;
    private static final int V_PLACE = 1;
    private static final int V_BNODE = 2;
    private static final int V_BOUND = 3;
    private static final int VAR_WIDTH = 5;
    private static final int C_KIND = 0;
    private static final int C_VAR0 = 1;
    private static final int C_VARS = 2;
    private static final int C_STATIC = 3;
    private static final int SCOPE_WIDTH = 4;
    private static final int L_NAME = 0;
    private static final int L_TYPE = 1;
    private static final int L_FLAGS = 2;
    private static final int L_BIT = 3;
    private static final int L_LO = 4;
    private static final int L_HI = 5;
    private static final int L_NODE = 6;
    private static final int LOCAL_WIDTH = 7;
    private static final int L_FINAL = 1;
    private static final int L_GIVEN = 2;
    private static final int L_CATCH = 4;
    private static final int L_CONST = 8;
    private static final int L_SET = 16;

    // modifiers and other flags of kinds, methods, fields
    private static final int PUBLIC = 1;
    private static final int PROTECTED = 2;
    private static final int PRIVATE = 4;
    private static final int STATIC = 8;
    private static final int ABSTRACT = 16;
    private static final int FINAL = 32;
    private static final int INTERFACE = 64;
    private static final int VARARGS = 128;
    private static final int CTOR = 256;
    private static final int UNTOLD = 512;

    // what a name was found to be
    private static final int IS_LOCAL = 1;
    private static final int IS_FIELD = 2;
    private static final int IS_KIND = 3;
    private static final int IS_VAR = 4;
    private static final int IS_LENGTH = 5;

    // types by number: 0 none, then primitive ones, void, null; tags are the document's kinds of TYPES
    private static final int BOOLEAN = 1;
    private static final int BYTE = 2;
    private static final int SHORT = 3;
    private static final int CHAR = 4;
    private static final int INT = 5;
    private static final int LONG = 6;
    private static final int VOID = 7;
    private static final int NULL = 8;
    private static final int TAG_KIND = 8;
    private static final int TAG_VAR = 9;
    private static final int TAG_ARRAY = 10;

    // kinds that are built in, by row
    private static final int BUILT_INS = 21;
    private static final int OBJECT = 0;
    private static final int THROWABLE = 1;
    private static final int EXCEPTION = 2;
    private static final int ERROR = 3;
    private static final int RUNTIME = 4;
    private static final int ARITHMETIC = 5;
    private static final int INDEX = 6;
    private static final int STORE = 7;
    private static final int CASTING = 8;
    private static final int NEGATIVE = 9;
    private static final int NULLPOINTER = 10;
    private static final int INITIALIZER = 11;
    private static final int NODEFINITION = 12;
    private static final int BOOLEAN_BOX = 13;
    private static final int LONG_BOX = 18;
    private static final int IN = 19;
    private static final int OUT = 20;
    private static final int ALL_KINDS = 46;
    private static final int BUILT_METHODS = 19;

    // parents of the built-in kinds
    private static final int[] BUILT_PARENTS = {-1, 0, 1, 1, 2, 4, 4, 4, 4, 4, 4, 3, 3, 0, 0, 0, 0, 0, 0, 0, 0};
    // what || && | .. / % bind like
    private static final int[] POWERS = {1, 2, 3, 4, 5, 6, 6, 7, 7, 7, 7, 8, 8, 8, 9, 9, 10, 10, 10};
    // the operator that stands ahead of the = of an assignment, from T_STARA on
    private static final int[] BEHIND_ASSIGN = {T_STAR, T_SLASH, T_PERCENT, T_PLUS, T_MINUS, T_SHL, T_SHR, T_USHR, T_AND, T_XOR, T_OR};
    // what the machine can do
    private static final int O_HALT = 0;
    private static final int O_STEP = 1;
    private static final int O_PUSH = 2;
    private static final int O_LOAD = 3;
    private static final int O_STORE = 4;
    private static final int O_POP = 5;
    private static final int O_DUP = 6;
    private static final int O_DUP2 = 7;
    private static final int O_DUPX1 = 8;
    private static final int O_DUPX2 = 9;
    private static final int O_GETF = 10;
    private static final int O_PUTF = 11;
    private static final int O_GETS = 12;
    private static final int O_PUTS = 13;
    private static final int O_START = 14;
    private static final int O_ALOAD = 15;
    private static final int O_ASTORE = 16;
    private static final int O_LENGTH = 17;
    private static final int O_WORK = 18;
    private static final int O_CMP = 19;
    private static final int O_NEG = 20;
    private static final int O_INV = 21;
    private static final int O_NOT = 22;
    private static final int O_SHAPE = 23;
    private static final int O_BOX = 24;
    private static final int O_UNBOX = 25;
    private static final int O_CHECK = 26;
    private static final int O_IS = 27;
    private static final int O_JUMP = 28;
    private static final int O_JZ = 29;
    private static final int O_JNZ = 30;
    private static final int O_NEW = 31;
    private static final int O_ARRAY = 32;
    private static final int O_CALL = 33;
    private static final int O_CALLV = 34;
    private static final int O_RET = 35;
    private static final int O_RETV = 36;
    private static final int O_THROW = 37;
    private static final int O_JSR = 38;
    private static final int O_BACK = 39;
    private static final int O_CASE = 40;
    private static final int O_PUT = 41;
    private static final int O_NEXT = 42;
    private static final int O_NULLCHECK = 43;
    private static final int O_ENDSTART = 44;

    // a shape, a type as the machine knows it, has its [ ] in its lower bits
    private static final int DIM_BITS = 16;
    private static final int DIM_MOST = 65535;

    /**
     * A table of numbers. Rows that aren't there read as 0 and take nothing, so no index is ever wrong.
     * What few texts need stands in parts, that are made when they are needed first.
     */
    private static final class Rows {
        private final int[] cells;
        private final int width;
        private final int limit;
        private final Rows[] parts;
        private int used;

        Rows(int limit, int width, int parts) {
            this.limit = Math.max(1, limit);
            this.width = Math.max(1, width);
            this.cells = new int[this.limit * this.width];
            this.parts = parts > 0 ? new Rows[parts] : null;
        }

        int size() {
            return used;
        }

        void cut(int n) {
            if (n < 0 || n >= used) {
                return;
            }
            for (int p = 0; parts != null && p < parts.length; p++) {
                if (parts[p] != null) {
                    parts[p].cut(Math.max(0, n - limit * (p + 1)));
                }
            }
            used = n;
        }

        int add() {
            if (used >= limit) {
                return addPart();
            }
            int from = used * width;
            for (int i = 0; i < width; i++) {
                cells[from + i] = 0;
            }
            used++;
            return used - 1;
        }

        private int addPart() {
            int p = used / limit - 1;
            if (parts == null || p < 0 || p >= parts.length) {
                return -1;
            }
            if (parts[p] == null) {
                parts[p] = new Rows(limit, width, 0);
            }
            parts[p].add();
            used++;
            return used - 1;
        }

        private Rows partOf(int row) {
            int p = row / limit - 1;
            return parts != null && p >= 0 && p < parts.length ? parts[p] : null;
        }

        int get(int row, int column) {
            if (row < 0 || row >= used || column < 0 || column >= width) {
                return 0;
            }
            if (row < limit) {
                return cells[row * width + column];
            }
            Rows part = partOf(row);
            return part == null ? 0 : part.get(row % limit, column);
        }

        void put(int row, int column, int value) {
            if (row < 0 || row >= used || column < 0 || column >= width) {
                return;
            }
            if (row < limit) {
                cells[row * width + column] = value;
                return;
            }
            Rows part = partOf(row);
            if (part != null) {
                part.put(row % limit, column, value);
            }
        }

        boolean has(int row, int column, int bits) {
            return (get(row, column) & bits) != 0;
        }

        void mark(int row, int column, int bits) {
            put(row, column, get(row, column) | bits);
        }

        void unmark(int row, int column, int bits) {
            put(row, column, get(row, column) & ~bits);
        }

        /** A long that stands in two columns. */
        long wide(int row, int column) {
            return ((long) get(row, column + 1) << 32) | (get(row, column) & 0xFFFFFFFFL);
        }

        void putWide(int row, int column, long value) {
            put(row, column, (int) value);
            put(row, column + 1, (int) (value >> 32));
        }
    }

    /** The text's signs, tokens and names. */
    private static final class Words {
        private static final int BAD_BYTE = -1;
        private static final int BAD_ESCAPE = -2;
        private static final int OVER = -3;
        private static final int BUCKETS = 256;

        private final int[] sign = new int[TAPE + 1];
        private final int[] spot = new int[TAPE + 1];
        private int signs;
        private int end;
        private final Rows tokens = new Rows(TAPE + 2, 6, 0);
        private final Rows names = new Rows(1700, 3, 0);
        private final int[] letters = new int[TAPE + 800];
        private int lettersUsed;
        private final int[] heads = new int[BUCKETS];
        private final int knownNames;
        private final int knownLetters;
        private int pos;

        Words() {
            names.add();
            learn(WORDS);
            learn(REFUSED_WORDS);
            learn(BUILT_IN);
            learn(OTHER_NAMES);
            knownNames = names.size();
            knownLetters = lettersUsed;
        }

        private void learn(String text) {
            int from = 0;
            for (int i = 0; i <= text.length(); i++) {
                if (i == text.length() || text.charAt(i) == ' ') {
                    for (int j = from; j < i; j++) {
                        sign[j - from] = text.charAt(j);
                    }
                    nameOf(0, i - from);
                    from = i + 1;
                }
            }
        }

        private int bucket(int from, int length, int[] row) {
            int h = 0;
            for (int i = 0; i < length; i++) {
                if (from + i < row.length) {
                    h = h * 31 + row[from + i];
                }
            }
            return (h ^ (h >> 8)) & (BUCKETS - 1);
        }

        private boolean sameName(int row, int from, int length) {
            if (names.get(row, 1) != length) {
                return false;
            }
            int start = names.get(row, 0);
            for (int i = 0; i < length; i++) {
                if (letters[start + i] != sign[from + i]) {
                    return false;
                }
            }
            return true;
        }

        /** The number of the name that has these signs. */
        private int nameOf(int from, int length) {
            int b = bucket(from, length, sign);
            int row = heads[b];
            for (int i = 0; i < MANY && row != 0; i++) {
                if (sameName(row, from, length)) {
                    return row;
                }
                row = names.get(row, 2);
            }
            if (lettersUsed + length > letters.length) {
                return 0;
            }
            row = names.add();
            names.put(row, 0, lettersUsed);
            names.put(row, 1, length);
            names.put(row, 2, heads[b]);
            for (int i = 0; i < length; i++) {
                letters[lettersUsed] = sign[from + i];
                lettersUsed++;
            }
            heads[b] = row;
            return row;
        }

        private void forget() {
            names.cut(knownNames);
            lettersUsed = knownLetters;
            for (int i = 0; i < BUCKETS; i++) {
                heads[i] = 0;
            }
            for (int row = 1; row < knownNames; row++) {
                int b = bucket(names.get(row, 0), names.get(row, 1), letters);
                names.put(row, 2, heads[b]);
                heads[b] = row;
            }
        }

        void take(int[] tape, int n) {
            forget();
            end = Math.min(n, TAPE);
            readSigns(tape);
            tokens.cut(0);
            pos = 0;
            for (int i = 0; i <= TAPE; i++) {
                if (!readToken()) {
                    break;
                }
            }
        }

        private static boolean blank(int c) {
            return c == 9 || c == 10 || c == 12 || c == 13 || c == 32;
        }

        private static int hex(int c) {
            if (c >= '0' && c <= '9') {
                return c - '0';
            }
            if (c >= 'a' && c <= 'f') {
                return c - 'a' + 10;
            }
            if (c >= 'A' && c <= 'F') {
                return c - 'A' + 10;
            }
            return 99;
        }

        private static int byteAt(int[] tape, int i, int end) {
            return i >= 0 && i < end && i < tape.length ? tape[i] : OVER;
        }

        private void addSign(int value, int place) {
            if (signs < TAPE) {
                sign[signs] = value;
                spot[signs] = place;
                signs++;
            }
        }

        /** Nothing behind a sign that is wrong can be read, so the signs end with it. */
        private void readSigns(int[] tape) {
            signs = 0;
            int slashes = 0;
            int i = 0;
            for (int round = 0; round < TAPE && i < end; round++) {
                int c = byteAt(tape, i, end);
                if (!blank(c) && (c < 32 || c > 126)) {
                    addSign(BAD_BYTE, i);
                    return;
                }
                if (c != '\\') {
                    slashes = 0;
                    addSign(c, i);
                    i++;
                } else if (slashes % 2 == 0 && byteAt(tape, i + 1, end) == 'u') {
                    int next = escape(tape, i);
                    if (next < 0) {
                        return;
                    }
                    slashes = 0;
                    i = next;
                } else {
                    slashes++;
                    addSign(c, i);
                    i++;
                }
            }
        }

        private int escape(int[] tape, int i) {
            int j = i + 1;
            for (int round = 0; round < TAPE && byteAt(tape, j, end) == 'u'; round++) {
                j++;
            }
            int value = 0;
            for (int k = 0; k < 4; k++) {
                int digit = hex(byteAt(tape, j + k, end));
                if (digit > 15) {
                    addSign(BAD_ESCAPE, i);
                    return -1;
                }
                value = value * 16 + digit;
            }
            addSign(value, i);
            return j + 4;
        }

        private int signAt(int i) {
            return i >= 0 && i < signs ? sign[i] : OVER;
        }

        private int spotOf(int i) {
            return i >= 0 && i < signs ? spot[i] : end;
        }

        private boolean addToken(int kind, int from, int length) {
            int row = tokens.add();
            tokens.put(row, 0, kind);
            tokens.put(row, 1, from);
            tokens.put(row, 5, length);
            pos = from + length;
            return kind != T_END && kind != T_BAD && row >= 0;
        }

        /** Reads one token; false behind the last one that can be read. */
        private boolean readToken() {
            int bad = skip();
            if (bad >= 0) {
                return addToken(T_BAD, bad, 0);
            }
            int c = signAt(pos);
            if (c == OVER) {
                return addToken(T_END, pos, 0);
            }
            if (letter(c)) {
                return readName();
            }
            if (digit(c) || (c == '.' && digit(signAt(pos + 1)))) {
                return readNumber();
            }
            if (c == '\'') {
                return readCharacter();
            }
            if (c == '"') {
                return addToken(T_REFUSED, pos, 1);
            }
            return readSign(c);
        }

        /** Goes over blanks and comments; the sign that is wrong in them, or -1. */
        private int skip() {
            for (int round = 0; round <= TAPE; round++) {
                int c = signAt(pos);
                if (blank(c)) {
                    pos++;
                } else if (c == '/' && signAt(pos + 1) == '/') {
                    int bad = lineComment();
                    if (bad >= 0) {
                        return bad;
                    }
                } else if (c == '/' && signAt(pos + 1) == '*') {
                    int bad = longComment();
                    if (bad >= 0) {
                        return bad;
                    }
                } else {
                    return -1;
                }
            }
            return -1;
        }

        private int lineComment() {
            pos += 2;
            for (int round = 0; round <= TAPE; round++) {
                int c = signAt(pos);
                if (c == BAD_BYTE || c == BAD_ESCAPE) {
                    return pos;
                }
                if (c == OVER || c == 10 || c == 13) {
                    return -1;
                }
                pos++;
            }
            return -1;
        }

        private int longComment() {
            pos += 2;
            for (int round = 0; round <= TAPE; round++) {
                int c = signAt(pos);
                if (c < 0) {
                    return pos;
                }
                if (c == '*' && signAt(pos + 1) == '/') {
                    pos += 2;
                    return -1;
                }
                pos++;
            }
            return -1;
        }

        private static boolean letter(int c) {
            return (c >= 'a' && c <= 'z') || (c >= 'A' && c <= 'Z') || c == '_' || c == '$';
        }

        private static boolean digit(int c) {
            return c >= '0' && c <= '9';
        }

        private boolean readName() {
            int from = pos;
            int i = pos;
            for (int round = 0; round <= TAPE && (letter(signAt(i)) || digit(signAt(i))); round++) {
                i++;
            }
            int name = nameOf(from, i - from);
            int kind = T_NAME;
            if (name > 0 && name <= WORD_COUNT) {
                kind = T_WORD + name - 1;
            } else if (name > 0 && name <= LAST_REFUSED) {
                kind = T_REFUSED;
            }
            boolean more = addToken(kind, from, i - from);
            tokens.put(tokens.size() - 1, 2, name);
            tokens.put(tokens.size() - 1, 4, i - from > 30 ? 1 : 0);
            return more;
        }

        /** The end of the longest row of digits, with _ between them, that begins at i. */
        private int digits(int i, int radix) {
            int j = i;
            int last = i;
            for (int round = 0; round <= TAPE; round++) {
                int c = signAt(j);
                if (hex(c) < radix) {
                    last = j + 1;
                } else if (c != '_' || j == i) {
                    break;
                }
                j++;
            }
            return last;
        }

        private static boolean either(int c, char small, char great) {
            return c == small || c == great;
        }

        private boolean exponent(int i, char small, char great) {
            if (!either(signAt(i), small, great)) {
                return false;
            }
            int c = signAt(i + 1);
            return digit(c) || ((c == '+' || c == '-') && digit(signAt(i + 2)));
        }

        private boolean floating() {
            if (signAt(pos) == '.') {
                return true;
            }
            if (signAt(pos) == '0' && either(signAt(pos + 1), 'x', 'X')) {
                int k = digits(pos + 2, 16);
                boolean some = k > pos + 2;
                if (signAt(k) == '.') {
                    int more = digits(k + 1, 16);
                    some = some || more > k + 1;
                    k = more;
                }
                return some && exponent(k, 'p', 'P');
            }
            int k = digits(pos, 10);
            int c = signAt(k);
            return c == '.' || exponent(k, 'e', 'E') || either(c, 'f', 'F') || either(c, 'd', 'D');
        }

        private boolean readNumber() {
            if (floating()) {
                return addToken(T_REFUSED, pos, 1);
            }
            int from = pos;
            int radix = 10;
            int start = from;
            int stop = from + 1;
            if (signAt(from) == '0') {
                int second = signAt(from + 1);
                if (either(second, 'x', 'X') && digits(from + 2, 16) > from + 2) {
                    radix = 16;
                    start = from + 2;
                } else if (either(second, 'b', 'B') && digits(from + 2, 2) > from + 2) {
                    radix = 2;
                    start = from + 2;
                } else {
                    radix = 8;
                }
            }
            stop = Math.max(stop, digits(start, radix));
            boolean wide = either(signAt(stop), 'l', 'L');
            return addNumber(from, start, stop, radix, wide);
        }

        private boolean addNumber(int from, int start, int stop, int radix, boolean wide) {
            long value = 0;
            boolean great = false;
            for (int i = start; i < stop; i++) {
                int d = hex(signAt(i));
                if (d < radix) {
                    great = great || overflows(value, d, radix);
                    value = value * radix + d;
                }
            }
            int kind = wide ? T_LONG : T_INT;
            if (radix == 10 && wide && value < 0) {
                kind = T_LONGMIN;
            }
            if (!wide && radix == 10 && value == 2147483648L) {
                kind = T_INTMIN;
            } else if (!wide && (value >>> 32 != 0 || (radix == 10 && value > 2147483647L))) {
                great = true;
            }
            boolean more = addToken(great ? T_BAD : kind, from, stop - from + (wide ? 1 : 0));
            tokens.putWide(tokens.size() - 1, 2, wide ? value : (int) value);
            return more;
        }

        private static boolean overflows(long value, int d, int radix) {
            if (radix == 10) {
                return value < 0 || value > 922337203685477580L || (value == 922337203685477580L && d > 8);
            }
            int bits = radix == 16 ? 4 : radix == 8 ? 3 : 1;
            return value >>> (64 - bits) != 0;
        }

        private boolean readCharacter() {
            int from = pos;
            int c = signAt(from + 1);
            int behind = from + 2;
            int value = c;
            if (c < 0 || c == '\'' || c == 10 || c == 13) {
                return addToken(T_BAD, from, 0);
            }
            if (c == '\\') {
                value = escaped(signAt(from + 2));
                behind = from + 3;
                if (signAt(from + 2) >= '0' && signAt(from + 2) <= '7') {
                    behind = octalEnd(from + 2);
                    value = octalValue(from + 2, behind);
                }
                if (value < 0) {
                    return addToken(T_BAD, from, 0);
                }
            }
            if (signAt(behind) != '\'') {
                return addToken(T_BAD, from, 0);
            }
            boolean more = addToken(T_CHAR, from, behind + 1 - from);
            tokens.putWide(tokens.size() - 1, 2, value);
            return more;
        }

        private static int escaped(int c) {
            switch (c) {
                case 'b': return 8;
                case 's': return 32;
                case 't': return 9;
                case 'n': return 10;
                case 'f': return 12;
                case 'r': return 13;
                case '"': return '"';
                case '\'': return '\'';
                case '\\': return '\\';
                default: return -1;
            }
        }

        private int octalEnd(int i) {
            int most = signAt(i) <= '3' ? 3 : 2;
            int j = i;
            for (int k = 0; k < most && signAt(j) >= '0' && signAt(j) <= '7'; k++) {
                j++;
            }
            return j;
        }

        private int octalValue(int i, int stop) {
            int value = 0;
            for (int j = i; j < stop; j++) {
                value = value * 8 + signAt(j) - '0';
            }
            return value;
        }

        private boolean readSign(int c) {
            int second = signAt(pos + 1);
            int third = signAt(pos + 2);
            switch (c) {
                case '(': return addToken(T_LPAREN, pos, 1);
                case ')': return addToken(T_RPAREN, pos, 1);
                case '{': return addToken(T_LBRACE, pos, 1);
                case '}': return addToken(T_RBRACE, pos, 1);
                case '[': return addToken(T_LBRACK, pos, 1);
                case ']': return addToken(T_RBRACK, pos, 1);
                case ';': return addToken(T_SEMI, pos, 1);
                case ',': return addToken(T_COMMA, pos, 1);
                case '?': return addToken(T_QUEST, pos, 1);
                case '~': return addToken(T_TILDE, pos, 1);
                case '@': return addToken(T_REFUSED, pos, 1);
                case '.':
                    return second == '.' && third == '.' ? addToken(T_ELLIPSIS, pos, 3) : addToken(T_DOT, pos, 1);
                case ':':
                    return second == ':' ? addToken(T_REFUSED, pos, 2) : addToken(T_COLON, pos, 1);
                case '=':
                    return second == '=' ? addToken(T_EQ, pos, 2) : addToken(T_ASSIGN, pos, 1);
                case '!':
                    return second == '=' ? addToken(T_NE, pos, 2) : addToken(T_NOT, pos, 1);
                case '*':
                    return second == '=' ? addToken(T_STARA, pos, 2) : addToken(T_STAR, pos, 1);
                case '/':
                    return second == '=' ? addToken(T_SLASHA, pos, 2) : addToken(T_SLASH, pos, 1);
                case '%':
                    return second == '=' ? addToken(T_PERCENTA, pos, 2) : addToken(T_PERCENT, pos, 1);
                case '^':
                    return second == '=' ? addToken(T_XORA, pos, 2) : addToken(T_XOR, pos, 1);
                default:
                    return readDouble(c, second, third);
            }
        }

        /** Signs that may stand twice. */
        private boolean readDouble(int c, int second, int third) {
            switch (c) {
                case '+':
                    return second == '+' ? addToken(T_INC, pos, 2) : second == '=' ? addToken(T_PLUSA, pos, 2) : addToken(T_PLUS, pos, 1);
                case '-':
                    if (second == '>') {
                        return addToken(T_REFUSED, pos, 2);
                    }
                    return second == '-' ? addToken(T_DEC, pos, 2) : second == '=' ? addToken(T_MINUSA, pos, 2) : addToken(T_MINUS, pos, 1);
                case '&':
                    return second == '&' ? addToken(T_ANDAND, pos, 2) : second == '=' ? addToken(T_ANDA, pos, 2) : addToken(T_AND, pos, 1);
                case '|':
                    return second == '|' ? addToken(T_OROR, pos, 2) : second == '=' ? addToken(T_ORA, pos, 2) : addToken(T_OR, pos, 1);
                case '<':
                    if (second == '<') {
                        return third == '=' ? addToken(T_SHLA, pos, 3) : addToken(T_SHL, pos, 2);
                    }
                    return second == '=' ? addToken(T_LE, pos, 2) : addToken(T_LT, pos, 1);
                case '>':
                    if (second == '>' && third == '>') {
                        return signAt(pos + 3) == '=' ? addToken(T_USHRA, pos, 4) : addToken(T_USHR, pos, 3);
                    }
                    if (second == '>') {
                        return third == '=' ? addToken(T_SHRA, pos, 3) : addToken(T_SHR, pos, 2);
                    }
                    return second == '=' ? addToken(T_GE, pos, 2) : addToken(T_GT, pos, 1);
                default:
                    return addToken(T_BAD, pos, 0);
            }
        }

        private int last(int i) {
            return Math.max(0, Math.min(i, tokens.size() - 1));
        }

        int kindOf(int i) {
            return tokens.get(last(i), 0);
        }

        int placeOf(int i, int half) {
            return spotOf(tokens.get(last(i), 1) + half);
        }

        int name(int i) {
            return tokens.get(last(i), 2);
        }

        long value(int i) {
            return tokens.wide(last(i), 2);
        }

        boolean tooLong(int i) {
            return tokens.get(last(i), 4) == 1;
        }

        /** How many > a token begins with that may close type arguments one by one. */
        int closers(int i) {
            switch (kindOf(i)) {
                case T_GT:
                case T_GE: return 1;
                case T_SHR:
                case T_SHRA: return 2;
                case T_USHR:
                case T_USHRA: return 3;
                default: return 0;
            }
        }

        boolean beginsClosing(int i) {
            return closers(i) > 0;
        }

        /** Whether a token of > has a = behind them, which is left when they are read. */
        boolean endsInAssign(int i) {
            int kind = kindOf(i);
            return kind == T_GE || kind == T_SHRA || kind == T_USHRA;
        }

        /** What is left of a token when so many of its > are read. */
        int kindBehind(int i, int half) {
            int kind = kindOf(i);
            if (half == 0) {
                return kind;
            }
            int left = closers(i) - half;
            if (endsInAssign(i)) {
                return left == 2 ? T_SHRA : left == 1 ? T_GE : T_ASSIGN;
            }
            return left == 2 ? T_SHR : T_GT;
        }
    }

    /** The tables of the text that is being judged, and the least fault that was found in them. */
    private static final class Tree {
        private final Rows nodes = new Rows(4200, NODE_WIDTH, 0);
        private final Rows kinds = new Rows(ALL_KINDS, KIND_WIDTH, 0);
        private final Rows methods = new Rows(170, METHOD_WIDTH, 0);
        private final Rows fields = new Rows(121, FIELD_WIDTH, 0);
        private final Rows vars = new Rows(800, VAR_WIDTH, 0);
        private final Rows scopes = new Rows(200, SCOPE_WIDTH, 0);
        private final Rows locals = new Rows(1600, LOCAL_WIDTH, 0);
        private final int[] atPlace = new int[TAPE + 1];
        private int worst;
        private int spot;
        private boolean quiet;
        private int told;
        private int length;

        void clear(int length) {
            nodes.cut(0);
            nodes.add();
            fields.cut(0);
            vars.cut(0);
            scopes.cut(0);
            locals.cut(0);
            for (int i = 0; i <= TAPE && i <= length; i++) {
                atPlace[i] = 0;
            }
            this.length = length;
            worst = 0;
            spot = 0;
            quiet = false;
            layBuiltIns();
        }

        private void layBuiltIns() {
            kinds.cut(0);
            methods.cut(0);
            for (int i = 0; i < BUILT_METHODS; i++) {
                int m = methods.add();
                methods.put(m, M_NAME, i == 5 ? NAME_NEXT : NAME_PUT);
                methods.put(m, M_KIND, i == 5 ? IN : i < 5 ? OUT : i - 6);
                methods.put(m, M_FLAGS, i <= 5 ? STATIC | PUBLIC : CTOR | PUBLIC);
                methods.put(m, M_NUM, i <= 5 ? -1 - i : -101 - (i - 6));
                methods.put(m, M_COUNT, i < 5 ? 1 : 0);
                methods.put(m, M_PLACE, NONE);
            }
            for (int k = 0; k < BUILT_INS; k++) {
                int row = kinds.add();
                kinds.put(row, K_NAME, NAME_OBJECT + k);
                kinds.put(row, K_PLACE, NONE);
                kinds.put(row, K_FLAGS, PUBLIC | (k >= BOOLEAN_BOX ? FINAL : 0));
                kinds.put(row, K_PARENT, k < BUILT_PARENTS.length ? BUILT_PARENTS[k] : OBJECT);
                kinds.put(row, K_CTOR, k <= NODEFINITION ? 6 + k : NONE);
                kinds.put(row, K_M0, k == OUT ? 0 : k == IN ? 5 : 0);
                kinds.put(row, K_M1, k == OUT ? 5 : k == IN ? 6 : 0);
                kinds.put(row, K_DONE, 1);
            }
        }

        /** Of faults of one stage the least place counts, at one place the least number. */
        void report(int fault, int place) {
            if (quiet) {
                return;
            }
            if (worst == 0 || place < spot || (place == spot && fault < worst)) {
                worst = fault;
                spot = place;
            }
        }

        int node(int n, int column) {
            return nodes.get(n, column);
        }

        void set(int n, int column, int value) {
            nodes.put(n, column, value);
        }

        int kindNumber(int k) {
            return k < BUILT_INS ? -1 - k : k - BUILT_INS;
        }

        boolean isInterface(int k) {
            return kinds.has(k, K_FLAGS, INTERFACE);
        }

        int listLength(int n) {
            int many = 0;
            for (int i = n; i != 0 && many < MANY; i = nodes.get(i, NX)) {
                many++;
            }
            return many;
        }

        /** The kind of this name that was there first, or -1. */
        int kindNamed(int name) {
            for (int k = 0; k < kinds.size(); k++) {
                if (kinds.get(k, K_NAME) == name) {
                    return k;
                }
            }
            return -1;
        }

        int fieldIn(int k, int name) {
            for (int f = kinds.get(k, K_F0); f < kinds.get(k, K_F1); f++) {
                if (fields.get(f, F_NAME) == name) {
                    return f;
                }
            }
            return -1;
        }

        /** The field of that name that the kind has: its own, or one that isn't private above it. */
        int fieldOf(int k, int name) {
            int at = k;
            for (int i = 0; i < ALL_KINDS && at >= 0; i++) {
                int f = fieldIn(at, name);
                if (f >= 0) {
                    return at != k && fields.has(f, F_FLAGS, PRIVATE) ? -1 : f;
                }
                at = kinds.get(at, K_PARENT);
            }
            return -1;
        }
    }

    /** Reads the tokens by the grammar; ends at the first token with which no text goes on. */
    private static final class Parser {
        private static final int NESTING = 24;
        private static final int DEPTH = 40;
        private static final int PREFIX = 200;
        private static final int CASTING_SIGN = 199;
        private static final int RELATION = 7;
        private static final int LISTED = 2;

        private final Words words;
        private final Tree tree;
        private int at;
        private int half;
        private int tok;
        private int nest;
        private int fault;
        private int spot;
        private int reach;
        private int reachFrom;
        private int reachNest;
        private boolean reachRefused;
        private int scanStop;
        private boolean scanRefused;
        private int home;
        private int scope;
        private int locals;
        private int members;
        private final int[] held = new int[1500];
        private int top;
        private int listDepth;

        Parser(Words words, Tree tree) {
            this.words = words;
            this.tree = tree;
        }

        int faultFound() {
            return fault;
        }

        int faultPlace() {
            return spot;
        }

        void read() {
            at = 0;
            half = 0;
            nest = 0;
            fault = 0;
            spot = 0;
            reach = -1;
            reachRefused = false;
            members = 0;
            top = 0;
            tok = words.kindOf(0);
            for (int i = 0; i < MANY && tok != T_END && fault == 0; i++) {
                if (tok == T_SEMI) {
                    next();
                } else {
                    readKind();
                }
            }
        }

        // ---- where it stands

        private int here() {
            return words.placeOf(at, half);
        }

        private void stop(int number, int place) {
            if (fault == 0) {
                fault = number;
                spot = place;
            }
            tok = T_DEAD;
        }

        /** The token can't stand here; another way to read what is ahead may go on longer. */
        private void wrong() {
            if (fault != 0) {
                return;
            }
            int now = at * 4 + half;
            if (now < reach) {
                readOtherwise();
            } else {
                stop(tok == T_REFUSED || (now == reach && reachRefused) ? 2 : 1, here());
            }
        }

        /** Reads as a type what went on longer as one, so that what is wrong there is met. */
        private void readOtherwise() {
            at = reachFrom;
            half = 0;
            nest = reachNest;
            tok = words.kindOf(at);
            reach = -1;
            readType();
            wrong();
        }

        private void refuse() {
            stop(2, here());
        }

        private void limit() {
            stop(3, here());
        }

        private void next() {
            if (fault != 0) {
                return;
            }
            if (tok == T_NAME && words.tooLong(at)) {
                limit();
                return;
            }
            at++;
            half = 0;
            tok = words.kindOf(at);
        }

        private void expect(int kind) {
            if (tok == kind) {
                next();
            } else {
                wrong();
            }
        }

        private void enter() {
            nest++;
            if (nest > NESTING && fault == 0) {
                limit();
            }
        }

        private void leave() {
            nest--;
        }

        private void open(int kind) {
            if (tok == kind) {
                enter();
                next();
            } else {
                wrong();
            }
        }

        private void close(int kind) {
            expect(kind);
            leave();
        }

        private int ahead() {
            return words.kindOf(at + 1);
        }

        private int make(int kind, int place) {
            int n = tree.nodes.add();
            tree.set(n, KD, kind);
            tree.set(n, PL, place);
            return Math.max(n, 0);
        }

        /** Hangs a node behind the last one of a list; the list's first one. */
        private int link(int first, int last, int n) {
            if (last != 0) {
                tree.set(last, NX, n);
            }
            return first == 0 ? n : first;
        }

        private int makeStatement(int kind) {
            int n = make(kind, here());
            tree.set(n, FI, here());
            return n;
        }

        // ---- kinds and members

        private static boolean modifier(int t) {
            return t == T_PUBLIC || t == T_PROTECTED || t == T_PRIVATE || t == T_STATIC || t == T_ABSTRACT || t == T_FINAL;
        }

        private static int modifierFlag(int t) {
            switch (t) {
                case T_PUBLIC: return PUBLIC;
                case T_PROTECTED: return PROTECTED;
                case T_PRIVATE: return PRIVATE;
                case T_STATIC: return STATIC;
                case T_ABSTRACT: return ABSTRACT;
                default: return FINAL;
            }
        }

        private static boolean primitive(int t) {
            return t == T_BOOLEAN || t == T_BYTE || t == T_SHORT || t == T_CHARW || t == T_INTW || t == T_LONGW;
        }

        private static int primitiveType(int t) {
            switch (t) {
                case T_BOOLEAN: return BOOLEAN;
                case T_BYTE: return BYTE;
                case T_SHORT: return SHORT;
                case T_CHARW: return CHAR;
                case T_INTW: return INT;
                default: return LONG;
            }
        }

        private int readModifiers() {
            int first = 0;
            int last = 0;
            for (int i = 0; i < MANY && modifier(tok); i++) {
                int n = make(X_MOD, here());
                tree.set(n, OP, modifierFlag(tok));
                first = link(first, last, n);
                last = n;
                next();
            }
            return first;
        }

        private int flagsOf(int mods) {
            int flags = 0;
            for (int n = mods; n != 0; n = tree.node(n, NX)) {
                flags |= tree.node(n, OP);
            }
            return flags;
        }

        private int addScope(int kind, boolean fixed) {
            int s = tree.scopes.add();
            tree.scopes.put(s, C_KIND, kind);
            tree.scopes.put(s, C_VAR0, tree.vars.size());
            tree.scopes.put(s, C_STATIC, fixed ? 1 : 0);
            return s;
        }

        private void readKind() {
            int mods = readModifiers();
            if (tok != T_CLASS && tok != T_INTERFACE) {
                wrong();
                return;
            }
            boolean face = tok == T_INTERFACE;
            next();
            if (tok != T_NAME) {
                wrong();
                return;
            }
            if (tree.kinds.size() - BUILT_INS >= 24) {
                limit();
                return;
            }
            int k = tree.kinds.add();
            home = k;
            scope = addScope(k, false);
            tree.kinds.put(k, K_NAME, words.name(at));
            tree.kinds.put(k, K_PLACE, here());
            tree.kinds.put(k, K_MODS, mods);
            tree.kinds.put(k, K_FLAGS, flagsOf(mods) | (face ? INTERFACE | ABSTRACT : 0));
            tree.kinds.put(k, K_SCOPE, scope);
            tree.kinds.put(k, K_VAR0, tree.vars.size());
            tree.kinds.put(k, K_CTOR, NONE);
            next();
            if (tok == T_LT) {
                readVars();
            }
            tree.kinds.put(k, K_VARS, tree.vars.size() - tree.kinds.get(k, K_VAR0));
            readHangs(k, face);
            readMembers(k, face);
        }

        private void readHangs(int k, boolean face) {
            if (tok == T_EXTENDS) {
                next();
                if (face) {
                    tree.kinds.put(k, K_IMPL, readRefs());
                } else {
                    tree.kinds.put(k, K_EXT, readRef());
                }
            }
            if (tok == T_IMPLEMENTS && !face) {
                next();
                tree.kinds.put(k, K_IMPL, readRefs());
            }
        }

        private void readMembers(int k, boolean face) {
            tree.kinds.put(k, K_F0, tree.fields.size());
            tree.kinds.put(k, K_M0, tree.methods.size());
            open(T_LBRACE);
            for (int i = 0; i < MANY && tok != T_RBRACE && fault == 0; i++) {
                readMember(face);
            }
            close(T_RBRACE);
            tree.kinds.put(k, K_F1, tree.fields.size());
            tree.kinds.put(k, K_M1, tree.methods.size());
        }

        private void readVars() {
            next();
            int many = 0;
            for (int i = 0; i < MANY && fault == 0; i++) {
                if (tok != T_NAME) {
                    wrong();
                    return;
                }
                many++;
                if (many > 4) {
                    limit();
                    return;
                }
                int v = tree.vars.add();
                tree.vars.put(v, V_NAME, words.name(at));
                tree.vars.put(v, V_PLACE, here());
                next();
                tree.scopes.put(scope, C_VARS, many);
                if (tok == T_EXTENDS) {
                    next();
                    tree.vars.put(v, V_BNODE, readRef());
                    if (tok == T_AND) {
                        refuse();
                    }
                }
                if (tok != T_COMMA) {
                    break;
                }
                next();
            }
            closeAngle();
        }

        /** One > of those that the token begins with. */
        private void closeAngle() {
            if (fault != 0) {
                return;
            }
            int all = words.closers(at);
            if (all <= half) {
                wrong();
                return;
            }
            half++;
            if (half == all && !words.endsInAssign(at)) {
                at++;
                half = 0;
                tok = words.kindOf(at);
            } else {
                tok = words.kindBehind(at, half);
            }
        }

        private int readRefs() {
            int first = 0;
            int last = 0;
            int many = 0;
            for (int i = 0; i < MANY && fault == 0; i++) {
                many++;
                if (many > 6 && tok == T_NAME) {
                    limit();
                    break;
                }
                int n = readRef();
                first = link(first, last, n);
                last = n;
                if (tok != T_COMMA) {
                    break;
                }
                next();
            }
            return first;
        }

        private int readTypeName() {
            int n = make(X_TYPE, here());
            tree.set(n, XT, scope);
            if (tok == T_NAME) {
                tree.set(n, NM, words.name(at));
                next();
            } else {
                wrong();
            }
            return n;
        }

        private int readRef() {
            int n = readTypeName();
            if (tok == T_LT) {
                tree.set(n, CA, readTypeArgs());
            }
            return n;
        }

        private int readType() {
            if (!primitive(tok)) {
                int n = readRef();
                readDims(n);
                return n;
            }
            int n = make(X_TYPE, here());
            tree.set(n, XT, scope);
            tree.set(n, OP, primitiveType(tok));
            next();
            readDims(n);
            return n;
        }

        /** [ ] behind a type or a name; CD of the node counts them. */
        private void readDims(int n) {
            for (int i = 0; i < MANY && tok == T_LBRACK; i++) {
                addDim(n, 0);
                open(T_LBRACK);
                close(T_RBRACK);
            }
        }

        private void addDim(int n, int more) {
            if (tree.node(n, CD) + more >= 4) {
                limit();
            }
            tree.set(n, CD, tree.node(n, CD) + 1);
        }

        private int readTypeArgs() {
            if (words.beginsClosing(at + 1)) {
                refuse();
                return 0;
            }
            enter();
            next();
            int first = 0;
            int last = 0;
            int many = 0;
            for (int i = 0; i < MANY && fault == 0; i++) {
                many++;
                if (tok == T_QUEST) {
                    refuse();
                    break;
                }
                if (many > 6 && (tok == T_NAME || primitive(tok))) {
                    limit();
                    break;
                }
                int n = readType();
                first = link(first, last, n);
                last = n;
                if (tree.node(n, OP) != 0 && tree.node(n, CD) == 0) {
                    wrong();
                }
                if (tok != T_COMMA) {
                    break;
                }
                next();
            }
            closeAngle();
            leave();
            return first;
        }

        private void readMember(boolean face) {
            if (tok == T_SEMI) {
                next();
                return;
            }
            int mods = readModifiers();
            int flags = flagsOf(mods);
            boolean starts = tok == T_LBRACE && !face && startsInitializer(mods);
            if (starts || tok == T_CLASS || tok == T_INTERFACE) {
                refuse();
                return;
            }
            scope = addScope(home, (flags & STATIC) != 0);
            locals = 0;
            boolean vars = tok == T_LT;
            if (vars) {
                readVars();
            }
            if (tok == T_NAME && ahead() == T_LPAREN && !face && !vars) {
                readMethod(mods, flags | CTOR, 0);
                return;
            }
            boolean none = tok == T_VOID;
            int type = 0;
            if (none) {
                next();
            } else {
                type = readType();
            }
            if (tok != T_NAME) {
                wrong();
            } else if (vars || none || ahead() == T_LPAREN) {
                readMethod(mods, flags, type);
            } else {
                // a field in an interface is static, told or not [9.3]
                tree.scopes.put(scope, C_STATIC, face || (flags & STATIC) != 0 ? 1 : 0);
                readFields(mods, flags, type);
            }
        }

        /** Nothing or a single static stands ahead of an initializer's { [8.6], [8.7]. */
        private boolean startsInitializer(int mods) {
            return mods == 0 || (tree.node(mods, OP) == STATIC && tree.node(mods, NX) == 0);
        }

        private boolean countMember() {
            members++;
            if (members > 120) {
                limit();
                return false;
            }
            return true;
        }

        private void readMethod(int mods, int flags, int type) {
            if (!countMember()) {
                return;
            }
            int m = tree.methods.add();
            tree.methods.put(m, M_NAME, words.name(at));
            tree.methods.put(m, M_PLACE, here());
            tree.methods.put(m, M_KIND, home);
            tree.methods.put(m, M_MODS, mods);
            tree.methods.put(m, M_RESULT, type);
            tree.methods.put(m, M_SCOPE, scope);
            tree.methods.put(m, M_VAR0, tree.scopes.get(scope, C_VAR0));
            tree.methods.put(m, M_VARS, tree.scopes.get(scope, C_VARS));
            tree.methods.put(m, M_NUM, m - BUILT_METHODS);
            next();
            open(T_LPAREN);
            int dots = readFormals(m);
            close(T_RPAREN);
            tree.methods.put(m, M_FLAGS, flags | dots);
            if (tok == T_THROWS) {
                next();
                tree.methods.put(m, M_THROWS, readRefs());
            }
            if (tok == T_SEMI && (flags & CTOR) == 0) {
                next();
            } else if (tok == T_LBRACE) {
                tree.methods.put(m, M_BODY, readBlock());
            } else {
                wrong();
            }
            tree.methods.put(m, M_LOCALS, locals);
        }

        private int readFormals(int m) {
            if (tok == T_RPAREN) {
                return 0;
            }
            int first = 0;
            int last = 0;
            int many = 0;
            int dots = 0;
            for (int i = 0; i < MANY && fault == 0; i++) {
                many++;
                if (many > 8 && (tok == T_FINAL || tok == T_NAME || primitive(tok))) {
                    limit();
                    break;
                }
                int n = readFormal();
                first = link(first, last, n);
                last = n;
                dots = (tree.node(n, FL) & DOTS) != 0 ? VARARGS : 0;
                if (tok != T_COMMA || dots != 0) {
                    break;
                }
                next();
            }
            tree.methods.put(m, M_FORMALS, first);
            tree.methods.put(m, M_COUNT, many);
            return dots;
        }

        private int readFormal() {
            int flags = 0;
            if (tok == T_FINAL) {
                flags = FINAL_DECL;
                next();
            }
            int type = readType();
            int dots = 0;
            if (tok == T_ELLIPSIS) {
                addDim(type, 0);
                dots = DOTS;
                if (fault == 0) {
                    next();
                }
            }
            int n = readName(type, flags | dots);
            if (dots == 0) {
                readNameDims(n, type);
            }
            return n;
        }

        /** The name of a local: a declarator that has its type in CB. */
        private int readName(int type, int flags) {
            int n = make(X_DECL, here());
            tree.set(n, CB, type);
            tree.set(n, FL, flags);
            if (tok != T_NAME) {
                wrong();
                return n;
            }
            locals++;
            if (locals > 40) {
                limit();
                return n;
            }
            tree.set(n, NM, words.name(at));
            next();
            return n;
        }

        private void readNameDims(int n, int type) {
            for (int i = 0; i < MANY && tok == T_LBRACK; i++) {
                addDim(n, tree.node(type, CD));
                open(T_LBRACK);
                close(T_RBRACK);
            }
        }

        private void readFields(int mods, int flags, int type) {
            for (int i = 0; i < MANY && fault == 0; i++) {
                if (tok != T_NAME) {
                    wrong();
                    return;
                }
                if (!countMember()) {
                    return;
                }
                readField(mods, flags, type);
                if (tok != T_COMMA) {
                    break;
                }
                next();
            }
            expect(T_SEMI);
        }

        private void readField(int mods, int flags, int type) {
            int f = tree.fields.add();
            int place = here();
            tree.fields.put(f, F_NAME, words.name(at));
            tree.fields.put(f, F_PLACE, place);
            tree.fields.put(f, F_KIND, home);
            tree.fields.put(f, F_FLAGS, flags);
            tree.fields.put(f, F_MODS, mods);
            tree.fields.put(f, F_TNODE, type);
            tree.fields.put(f, F_BIT, NONE);
            next();
            int n = make(X_DECL, place);
            readNameDims(n, type);
            tree.fields.put(f, F_DIMS, tree.node(n, CD));
            if (tok == T_ASSIGN) {
                next();
                tree.fields.put(f, F_INIT, readInit(0));
            } else if (fault == 0 && ((flags & FINAL) != 0 || tree.kinds.has(home, K_FLAGS, INTERFACE))) {
                int blanks = tree.kinds.get(home, K_BLANKS);
                if (blanks >= 20) {
                    stop(3, place);
                }
                tree.fields.put(f, F_BIT, 40 + blanks);
                tree.kinds.put(home, K_BLANKS, blanks + 1);
            }
        }

        // ---- statements

        private int readBlock() {
            int n = makeStatement(S_BLOCK);
            open(T_LBRACE);
            int first = 0;
            int last = 0;
            for (int i = 0; i < MANY && tok != T_RBRACE && fault == 0; i++) {
                int s = readStatement(true);
                first = link(first, last, s);
                last = s;
            }
            tree.set(n, CA, first);
            tree.set(n, XT, here());
            close(T_RBRACE);
            return n;
        }

        private int readStatement(boolean listed) {
            switch (tok) {
                case T_LBRACE: return readBlock();
                case T_IF: return readIf();
                case T_WHILE: return readWhile();
                case T_DO: return readDo();
                case T_FOR: return readFor();
                case T_SWITCH: return readSwitch();
                case T_TRY: return readTry();
                case T_BREAK:
                case T_CONTINUE: return readJump();
                case T_RETURN:
                case T_THROW: return readLeaving();
                case T_CLASS:
                case T_INTERFACE:
                    refuse();
                    return 0;
                case T_SEMI: {
                    int n = makeStatement(S_EMPTY);
                    next();
                    return n;
                }
                case T_THIS:
                case T_SUPER:
                    return ahead() == T_LPAREN ? readConstructorCall() : readExpStatement();
                default:
                    return readSimple(listed);
            }
        }

        private int readSimple(boolean listed) {
            if (tok == T_NAME && ahead() == T_COLON) {
                int n = makeStatement(S_LABEL);
                enter();
                tree.set(n, NM, words.name(at));
                next();
                next();
                tree.set(n, CA, readStatement(false));
                leave();
                return n;
            }
            if (listed && declares()) {
                int n = readLocal();
                expect(T_SEMI);
                return n;
            }
            return readExpStatement();
        }

        /** Whether a declaration begins here; notes how far one could go on. */
        private boolean declares() {
            if (tok == T_FINAL || primitive(tok)) {
                return true;
            }
            if (tok != T_NAME) {
                return false;
            }
            int behind = scan(at);
            if (behind >= 0 && behind % 4 == 0 && words.kindOf(behind / 4) == T_NAME) {
                return true;
            }
            reachTo(behind, at, nest);
            return false;
        }

        private void reachTo(int behind, int from, int depth) {
            int goal = behind >= 0 ? behind : scanStop;
            if (goal > reach) {
                reach = goal;
                reachFrom = from;
                reachNest = depth;
                reachRefused = behind < 0 && scanRefused;
            }
        }

        /**
         * Goes over a type from token i on without reading it: what is behind it (token * 4 and
         * its > that are read), or -1; then scanStop is where no type goes on.
         */
        private int scan(int from) {
            int i = from;
            int h = 0;
            int depth = 0;
            boolean begin = true;
            boolean bare = false;
            boolean args = false;
            scanRefused = false;
            for (int round = 0; round < MANY; round++) {
                int k = words.kindBehind(i, h);
                scanStop = i * 4 + h;
                if (begin) {
                    if (k != T_NAME && !primitive(k)) {
                        scanRefused = k == T_QUEST && depth > 0;
                        return -1;
                    }
                    bare = k != T_NAME;
                    args = !bare;
                    begin = false;
                    i++;
                } else if (k == T_LBRACK) {
                    if (words.kindOf(i + 1) != T_RBRACK) {
                        scanStop = (i + 1) * 4;
                        return -1;
                    }
                    bare = false;
                    args = false;
                    i += 2;
                } else if (k == T_LT && args) {
                    if (words.beginsClosing(i + 1)) {
                        scanRefused = true;
                        return -1;
                    }
                    depth++;
                    begin = true;
                    i++;
                } else if (depth == 0) {
                    return i * 4 + h;
                } else if (bare || (k != T_COMMA && words.closers(i) <= h)) {
                    return -1;
                } else if (k == T_COMMA) {
                    begin = true;
                    i++;
                } else {
                    depth--;
                    args = false;
                    h++;
                    if (h == words.closers(i) && !words.endsInAssign(i)) {
                        i++;
                        h = 0;
                    }
                }
            }
            return -1;
        }

        private int readLocal() {
            int n = makeStatement(S_LOCAL);
            int flags = 0;
            if (tok == T_FINAL) {
                flags = FINAL_DECL;
                next();
                if (tok == T_CLASS || tok == T_INTERFACE) {
                    refuse();
                }
            }
            int type = readType();
            tree.set(n, CA, type);
            tree.set(n, CB, readDeclarators(type, flags));
            return n;
        }

        private int readDeclarators(int type, int flags) {
            int first = 0;
            int last = 0;
            for (int i = 0; i < MANY && fault == 0; i++) {
                int d = readName(type, flags);
                readNameDims(d, type);
                first = link(first, last, d);
                last = d;
                readInitOf(d);
                if (tok != T_COMMA) {
                    break;
                }
                next();
            }
            return first;
        }

        private void readInitOf(int d) {
            if (tok == T_ASSIGN) {
                next();
                tree.set(d, CA, readInit(0));
            }
        }

        private int readInit(int level) {
            return tok == T_LBRACE ? readBraces() : readExp(level);
        }

        private int readBraces() {
            int n = make(E_INIT, here());
            open(T_LBRACE);
            int first = 0;
            int last = 0;
            int many = 0;
            int deep = 0;
            for (int i = 0; i < MANY && tok != T_RBRACE && tok != T_COMMA && fault == 0; i++) {
                many++;
                if (many > 40 && (tok == T_LBRACE || beginsExp(tok))) {
                    limit();
                    break;
                }
                int e = readInit(LISTED);
                first = link(first, last, e);
                last = e;
                deep = Math.max(deep, tree.node(e, FI));
                if (tok != T_COMMA) {
                    break;
                }
                next();
                if (tok == T_COMMA) {
                    wrong();
                }
            }
            if (tok == T_COMMA && many == 0) {
                next();
            }
            close(T_RBRACE);
            tree.set(n, CB, first);
            deepen(n, deep);
            return n;
        }

        private int readExpStatement() {
            int n = makeStatement(S_EXP);
            tree.set(n, CA, readActing());
            expect(T_SEMI);
            return n;
        }

        /** An expression that may stand as a statement. */
        private int readActing() {
            int e = readExp(0);
            int kind = tree.node(e, KD);
            boolean acts = kind == E_ASSIGN || kind == E_PREINC || kind == E_POSTINC || kind == E_CALL || kind == E_NEW;
            if (fault == 0 && (!acts || (tree.node(e, FL) & PAREN) != 0)) {
                wrong();
            }
            return e;
        }

        private int readCondition() {
            open(T_LPAREN);
            int e = readExp(0);
            close(T_RPAREN);
            return e;
        }

        private int readIf() {
            int n = makeStatement(S_IF);
            enter();
            next();
            tree.set(n, CA, readCondition());
            tree.set(n, CB, readStatement(false));
            if (tok == T_ELSE) {
                next();
                tree.set(n, CC, readStatement(false));
            }
            leave();
            return n;
        }

        private int readWhile() {
            int n = makeStatement(S_WHILE);
            enter();
            next();
            tree.set(n, CA, readCondition());
            tree.set(n, CB, readStatement(false));
            leave();
            return n;
        }

        private int readDo() {
            int n = makeStatement(S_DO);
            enter();
            next();
            tree.set(n, CB, readStatement(false));
            expect(T_WHILE);
            tree.set(n, CA, readCondition());
            expect(T_SEMI);
            leave();
            return n;
        }

        private int readFor() {
            int n = makeStatement(S_FOR);
            enter();
            next();
            open(T_LPAREN);
            boolean each = false;
            if (tok != T_SEMI && declares()) {
                each = readForLocal(n);
            } else if (tok != T_SEMI) {
                tree.set(n, CA, readActions());
            }
            if (!each) {
                expect(T_SEMI);
                if (tok != T_SEMI) {
                    tree.set(n, CB, readExp(0));
                }
                expect(T_SEMI);
                if (tok != T_RPAREN) {
                    tree.set(n, CC, readActions());
                }
            }
            close(T_RPAREN);
            tree.set(n, CD, readStatement(false));
            leave();
            return n;
        }

        /** What a for declares; true if it is one for each element of a row. */
        private boolean readForLocal(int n) {
            int s = makeStatement(S_LOCAL);
            int flags = 0;
            if (tok == T_FINAL) {
                flags = FINAL_DECL;
                next();
            }
            int type = readType();
            tree.set(s, CA, type);
            int d = readName(type, flags);
            readNameDims(d, type);
            tree.set(s, CB, d);
            tree.set(n, CA, s);
            if (tok == T_COLON) {
                tree.set(n, KD, S_EACH);
                next();
                tree.set(n, CC, readExp(0));
                return true;
            }
            readInitOf(d);
            if (tok == T_COMMA) {
                next();
                tree.set(d, NX, readDeclarators(type, flags));
            }
            return false;
        }

        private int readActions() {
            int first = 0;
            int last = 0;
            for (int i = 0; i < MANY && fault == 0; i++) {
                int e = readActing();
                first = link(first, last, e);
                last = e;
                if (tok != T_COMMA) {
                    break;
                }
                next();
            }
            return first;
        }

        private int readJump() {
            int n = makeStatement(tok == T_BREAK ? S_BREAK : S_CONT);
            next();
            if (tok == T_NAME) {
                tree.set(n, NM, words.name(at));
                next();
            }
            expect(T_SEMI);
            return n;
        }

        private int readLeaving() {
            boolean back = tok == T_RETURN;
            int n = makeStatement(back ? S_RETURN : S_THROW);
            next();
            if (!back || tok != T_SEMI) {
                tree.set(n, CA, readExp(0));
            }
            expect(T_SEMI);
            return n;
        }

        private int readConstructorCall() {
            int n = makeStatement(tok == T_THIS ? S_THIS : S_SUPER);
            next();
            tree.set(n, CB, readArgs());
            expect(T_SEMI);
            return n;
        }

        private int readTry() {
            int n = makeStatement(S_TRY);
            enter();
            next();
            if (tok == T_LPAREN) {
                refuse();
            }
            tree.set(n, CA, readBlock());
            int last = 0;
            for (int i = 0; i < MANY && tok == T_CATCH; i++) {
                int c = readCatch(n);
                if (last == 0) {
                    tree.set(n, CB, c);
                } else {
                    tree.set(last, NX, c);
                }
                last = c;
            }
            if (tok == T_FINALLY) {
                next();
                tree.set(n, CC, readBlock());
            } else if (last == 0) {
                wrong();
            }
            leave();
            return n;
        }

        private int readCatch(int whole) {
            int c = makeStatement(S_CATCH);
            next();
            open(T_LPAREN);
            int flags = 0;
            if (tok == T_FINAL) {
                flags = FINAL_DECL;
                next();
            }
            int type = readRef();
            if (tok == T_OR) {
                refuse();
            }
            tree.set(c, CA, type);
            tree.set(c, CB, readName(type, flags));
            tree.set(c, CD, whole);
            close(T_RPAREN);
            tree.set(c, CC, readBlock());
            return c;
        }

        private int readSwitch() {
            int n = makeStatement(S_SWITCH);
            enter();
            next();
            tree.set(n, CA, readCondition());
            open(T_LBRACE);
            int first = 0;
            int last = 0;
            for (int i = 0; i < MANY && tok != T_RBRACE && fault == 0; i++) {
                int s = 0;
                if (tok == T_CASE || tok == T_DEFAULT) {
                    s = readLabel();
                } else if (first == 0) {
                    wrong();
                } else {
                    s = readStatement(true);
                }
                first = link(first, last, s);
                last = s;
            }
            tree.set(n, CB, first);
            close(T_RBRACE);
            leave();
            return n;
        }

        private int readLabel() {
            int n = makeStatement(tok == T_CASE ? S_CASE : S_DEFAULT);
            boolean value = tok == T_CASE;
            next();
            if (value) {
                tree.set(n, CA, readExp(0));
            }
            expect(T_COLON);
            return n;
        }

        // ---- expressions

        /** A node's depth is one more than its deepest part's. */
        private void deepen(int n, int deepest) {
            tree.set(n, FI, deepest + 1);
            if (deepest + 1 > DEPTH && fault == 0) {
                stop(3, tree.node(n, PL));
            }
        }

        private int depth(int n) {
            return n == 0 ? 0 : tree.node(n, FI);
        }

        private static boolean beginsExp(int t) {
            switch (t) {
                case T_NAME:
                case T_INT:
                case T_LONG:
                case T_CHAR:
                case T_TRUE:
                case T_FALSE:
                case T_NULL:
                case T_THIS:
                case T_SUPER:
                case T_NEW:
                case T_LPAREN:
                    return true;
                default:
                    return prefix(t);
            }
        }

        private static boolean prefix(int t) {
            return t == T_PLUS || t == T_MINUS || t == T_NOT || t == T_TILDE || t == T_INC || t == T_DEC;
        }

        private static int power(int t) {
            if (t == T_INSTANCEOF) {
                return RELATION;
            }
            return t >= T_OROR && t <= T_PERCENT ? POWERS[t - T_OROR] : 0;
        }

        private void push(int sign, int place, int n) {
            if (top + 3 <= held.length) {
                held[top] = sign;
                held[top + 1] = place;
                held[top + 2] = n;
                top += 3;
            } else {
                limit();
            }
        }

        /** Level 0 takes assignments, level 1 none; LISTED besides, where a comma and one more may follow. */
        private int readExp(int level) {
            int base = top;
            int right = readOperand();
            for (int i = 0; i < MANY && power(tok) > 0; i++) {
                right = reduce(base, right, power(tok));
                if (tok == T_LT && words.beginsClosing(at + 1)) {
                    refuse();
                }
                if (fault != 0) {
                    break;
                }
                int place = here();
                if (tok == T_INSTANCEOF) {
                    next();
                    int n = make(E_IS, place);
                    tree.set(n, CA, right);
                    tree.set(n, CB, readTested((level & LISTED) != 0));
                    deepen(n, depth(right));
                    right = n;
                    if (power(tok) > RELATION) {
                        wrong();
                    }
                } else {
                    push(tok, place, right);
                    next();
                    right = readOperand();
                }
            }
            right = reduce(base, right, 0);
            if (tok == T_QUEST) {
                right = readConditional(right, level & LISTED);
            }
            if ((level & 1) == 0 && assigns(tok)) {
                right = readAssignment(right, level);
            }
            top = base;
            return right;
        }

        private static boolean assigns(int t) {
            return t >= T_ASSIGN && t <= T_ORA;
        }

        /** The type of an instanceof; a < behind its name begins type arguments, or is an operator. */
        private int readTested(boolean listed) {
            if (tok != T_NAME || ahead() != T_LT) {
                return readType();
            }
            int behind = scan(at);
            if (behind >= 0 && followsTested(words.kindBehind(behind / 4, behind % 4))
                    && (behind % 4 == 0 || !operands(behind / 4, listed))) {
                return readType();
            }
            reachTo(behind, at, nest);
            return readTypeName();
        }

        /** Whether a text goes on with the token behind the type of an instanceof. */
        private static boolean followsTested(int t) {
            switch (t) {
                case T_QUEST:
                case T_COLON:
                case T_COMMA:
                case T_SEMI:
                case T_RPAREN:
                case T_RBRACK:
                case T_RBRACE:
                    return true;
                default:
                    return assigns(t) || (power(t) > 0 && power(t) <= RELATION);
            }
        }

        /**
         * Whether the tokens from here to this one are names with operators between them, too: then
         * the last one, which type arguments would take in parts, stays as long as it can be.
         */
        private boolean operands(int last, boolean listed) {
            for (int i = at; i <= last; i++) {
                int t = words.kindOf(i);
                boolean name = (i - at) % 2 == 0;
                if (name ? t != T_NAME : t != T_LT && words.closers(i) == 0 && !(listed && t == T_COMMA)) {
                    return false;
                }
            }
            return true;
        }

        private int reduce(int base, int operand, int least) {
            int right = operand;
            for (int i = 0; i < MANY && top > base && fault == 0 && power(held[top - 3]) >= least; i++) {
                top -= 3;
                int n = make(E_BIN, held[top + 1]);
                tree.set(n, OP, held[top]);
                tree.set(n, CA, held[top + 2]);
                tree.set(n, CB, right);
                deepen(n, Math.max(depth(held[top + 2]), depth(right)));
                right = n;
            }
            return right;
        }

        /** The right side of the sign that stands here; it is nested. */
        private int readRight(int level) {
            enter();
            next();
            int n = readExp(level);
            leave();
            return n;
        }

        private int readConditional(int condition, int listed) {
            int n = make(E_COND, here());
            int yes = readRight(0);
            if (tok != T_COLON) {
                wrong();
                return n;
            }
            int no = readRight(listed | 1);
            tree.set(n, CA, condition);
            tree.set(n, CB, yes);
            tree.set(n, CC, no);
            deepen(n, Math.max(depth(condition), Math.max(depth(yes), depth(no))));
            return n;
        }

        private int readAssignment(int left, int level) {
            int n = make(E_ASSIGN, here());
            tree.set(n, OP, tok);
            int right = readRight(level);
            tree.set(n, CA, left);
            tree.set(n, CB, right);
            deepen(n, Math.max(depth(left), depth(right)));
            return n;
        }

        /** Signs and casts, and what they stand ahead of. */
        private int readOperand() {
            int base = top;
            boolean least = false;
            for (int i = 0; i < MANY && fault == 0; i++) {
                if (prefix(tok)) {
                    boolean minus = tok == T_MINUS;
                    enter();
                    push(tok + PREFIX, here(), 0);
                    next();
                    least = minus && (tok == T_INTMIN || tok == T_LONGMIN);
                } else if (tok == T_LPAREN && castAhead()) {
                    int place = here();
                    int type = readCastType();
                    nest++;
                    push(CASTING_SIGN, place, type);
                } else {
                    break;
                }
                if (least) {
                    break;
                }
            }
            int n = least ? readLiteral() : readPrimary();
            for (int i = 0; i < MANY && top > base && fault == 0; i++) {
                top -= 3;
                n = makePrefix(held[top], held[top + 1], held[top + 2], n);
                leave();
            }
            return n;
        }

        private int makePrefix(int sign, int place, int type, int operand) {
            int t = sign - PREFIX;
            int n = make(sign == CASTING_SIGN ? E_CAST : t == T_INC || t == T_DEC ? E_PREINC : E_PRE, place);
            tree.set(n, OP, sign == CASTING_SIGN ? 0 : t);
            tree.set(n, CA, operand);
            tree.set(n, CB, type);
            deepen(n, depth(operand));
            return n;
        }

        private static boolean followsCast(int t) {
            return t != T_PLUS && t != T_MINUS && t != T_INC && t != T_DEC && beginsExp(t);
        }

        /** Whether the ( begins a cast; notes how far one could go on. */
        private boolean castAhead() {
            if (primitive(ahead())) {
                return true;
            }
            if (ahead() != T_NAME) {
                return false;
            }
            int behind = scan(at + 1);
            if (behind < 0 || words.kindBehind(behind / 4, behind % 4) != T_RPAREN) {
                reachTo(behind, at + 1, nest + 1);
                return false;
            }
            return behind != (at + 2) * 4 || followsCast(words.kindOf(behind / 4 + 1));
        }

        private int readCastType() {
            open(T_LPAREN);
            int type = readType();
            close(T_RPAREN);
            boolean bare = tree.node(type, OP) != 0 && tree.node(type, CD) == 0;
            if (!bare && (tok == T_QUEST || tok == T_SWITCH)) {
                refuse();
            } else if (!bare && !followsCast(tok)) {
                wrong();
            }
            return type;
        }

        private int readPrimary() {
            int n = readAtom();
            for (int i = 0; i < MANY && fault == 0; i++) {
                int kind = tree.node(n, KD);
                boolean row = (kind == E_ARRAY || kind == E_ARRAYINIT) && (tree.node(n, FL) & PAREN) == 0;
                if (tok == T_DOT) {
                    n = readDotted(n);
                } else if (tok == T_LBRACK && !row) {
                    n = readElement(n);
                } else {
                    break;
                }
            }
            for (int i = 0; i < MANY && (tok == T_INC || tok == T_DEC); i++) {
                int p = make(E_POSTINC, here());
                tree.set(p, OP, tok);
                tree.set(p, CA, n);
                next();
                deepen(p, depth(n));
                n = p;
            }
            return n;
        }

        private int readAtom() {
            switch (tok) {
                case T_NAME:
                    if (ahead() == T_LPAREN) {
                        return readCall(0, 0);
                    } else {
                        int n = make(E_NAME, here());
                        tree.set(n, NM, words.name(at));
                        next();
                        deepen(n, 0);
                        return n;
                    }
                case T_THIS: {
                    int n = make(E_THIS, here());
                    next();
                    deepen(n, 0);
                    return n;
                }
                case T_SUPER: return readSuper();
                case T_NEW: return readNew();
                case T_LPAREN: {
                    open(T_LPAREN);
                    int n = readExp(0);
                    close(T_RPAREN);
                    tree.nodes.mark(n, FL, PAREN);
                    return n;
                }
                case T_INT:
                case T_LONG:
                case T_CHAR:
                case T_TRUE:
                case T_FALSE:
                case T_NULL:
                    return readLiteral();
                case T_QUEST:
                case T_SWITCH:
                    refuse();
                    return 0;
                default:
                    wrong();
                    return 0;
            }
        }

        private int readLiteral() {
            int n = make(E_LIT, here());
            int type = INT;
            switch (tok) {
                case T_LONG:
                case T_LONGMIN: type = LONG; break;
                case T_CHAR: type = CHAR; break;
                case T_TRUE:
                case T_FALSE: type = BOOLEAN; break;
                case T_NULL: type = NULL; break;
                default: break;
            }
            tree.set(n, TY, type);
            long value = tok == T_TRUE ? 1 : tok >= T_WORD ? 0 : words.value(at);
            tree.nodes.putWide(n, LO, value);
            next();
            deepen(n, 0);
            return n;
        }

        private int readSuper() {
            int place = here();
            next();
            if (tok != T_DOT) {
                wrong();
                return 0;
            }
            next();
            return readBehindDot(0, place + 1);
        }

        private int readDotted(int left) {
            next();
            return readBehindDot(left, 0);
        }

        /** A field or call behind a point; superPlace is the place of super and 1, or 0. */
        private int readBehindDot(int left, int superPlace) {
            if (tok == T_CLASS || tok == T_THIS || tok == T_SUPER || tok == T_NEW) {
                refuse();
                return 0;
            }
            int args = 0;
            boolean generic = tok == T_LT;
            if (generic) {
                args = readTypeArgs();
            }
            if (tok != T_NAME) {
                wrong();
                return 0;
            }
            int n = 0;
            if (generic || ahead() == T_LPAREN) {
                n = readCall(left, args);
            } else {
                n = make(superPlace != 0 ? E_SUPER : E_FIELD, here());
                tree.set(n, NM, words.name(at));
                tree.set(n, CA, left);
                next();
                deepen(n, depth(left));
            }
            tree.set(n, XT, superPlace);
            return n;
        }

        private int readCall(int left, int typeArgs) {
            int n = make(E_CALL, here());
            tree.set(n, NM, words.name(at));
            tree.set(n, CA, left);
            tree.set(n, CC, typeArgs);
            next();
            tree.set(n, CB, readArgs());
            deepen(n, Math.max(depth(left), listDepth));
            return n;
        }

        /** Arguments in ( ); listDepth is the deepest one's depth. */
        private int readArgs() {
            open(T_LPAREN);
            int first = 0;
            int last = 0;
            int many = 0;
            int deep = 0;
            for (int i = 0; i < MANY && tok != T_RPAREN && fault == 0; i++) {
                many++;
                if (many > 8 && beginsExp(tok)) {
                    limit();
                    break;
                }
                int e = readExp(LISTED);
                deep = Math.max(deep, depth(e));
                first = link(first, last, e);
                last = e;
                if (tok != T_COMMA) {
                    break;
                }
                next();
                if (tok == T_RPAREN) {
                    wrong();
                }
            }
            close(T_RPAREN);
            listDepth = deep;
            return first;
        }

        private int readElement(int left) {
            int n = make(E_ELEM, here());
            open(T_LBRACK);
            int index = readExp(0);
            close(T_RBRACK);
            tree.set(n, CA, left);
            tree.set(n, CB, index);
            deepen(n, Math.max(depth(left), depth(index)));
            return n;
        }

        private int readNew() {
            int n = make(E_NEW, here());
            next();
            int type = 0;
            if (primitive(tok)) {
                type = make(X_TYPE, here());
                tree.set(type, XT, scope);
                tree.set(type, OP, primitiveType(tok));
                next();
            } else {
                type = readRef();
            }
            tree.set(n, CA, type);
            if (tok == T_LPAREN && tree.node(type, OP) == 0) {
                tree.set(n, CB, readArgs());
                deepen(n, listDepth);
                if (tok == T_LBRACE) {
                    refuse();
                }
                return n;
            }
            if (tok != T_LBRACK) {
                wrong();
                return n;
            }
            return ahead() == T_RBRACK ? readNewRow(n, type) : readNewSizes(n);
        }

        private int readNewRow(int n, int type) {
            tree.set(n, KD, E_ARRAYINIT);
            readDims(type);
            if (tok != T_LBRACE) {
                wrong();
                return n;
            }
            int init = readBraces();
            tree.set(n, CB, init);
            deepen(n, depth(init));
            return n;
        }

        /** CD of the node counts all its [ ], those with sizes stand in CB. */
        private int readNewSizes(int n) {
            tree.set(n, KD, E_ARRAY);
            int first = 0;
            int last = 0;
            int deep = 0;
            boolean empty = false;
            for (int i = 0; i < MANY && tok == T_LBRACK; i++) {
                addDim(n, 0);
                open(T_LBRACK);
                if (first != 0 && tok == T_RBRACK) {
                    empty = true;
                } else if (empty) {
                    wrong();
                } else {
                    int e = readExp(0);
                    deep = Math.max(deep, depth(e));
                    first = link(first, last, e);
                    last = e;
                }
                close(T_RBRACK);
            }
            tree.set(n, CB, first);
            deepen(n, deep);
            return n;
        }
    }

    /** Types: each is there once, so two that are the same have the same number. */
    private static final class Types {
        private static final int TAG = 0;
        private static final int OF = 1;
        private static final int FIRST = 2;
        private static final int CHAIN = 3;
        private static final int TAGS = 16;
        private static final int KEPT = 1024;
        private static final int BUCKETS = 4096;

        private final Tree tree;
        private final Rows rows = new Rows(4096, 4, 127);
        private final Rows args = new Rows(8192, 1, 127);
        private final int[] work = new int[200];
        private int workTop;
        private final int[] heads = new int[BUCKETS];
        private final int[] above = new int[ALL_KINDS * ALL_KINDS];
        private final Rows images = new Rows(4096, 2, 31);
        private final int[] open = new int[TAPE + 2];
        private int rounds;
        private final Rows wants = new Rows(128, 5, 63);
        private final int[] keptKeys = new int[KEPT];
        private final int[] keptTypes = new int[KEPT];
        private int firstA;
        private int countA;
        private int argsA;
        private int firstB;
        private int countB;
        private int argsB;

        Types(Tree tree) {
            this.tree = tree;
        }

        void clear() {
            rows.cut(0);
            args.cut(0);
            images.cut(0);
            rounds = 0;
            workTop = 0;
            for (int i = 0; i < BUCKETS; i++) {
                heads[i] = 0;
            }
            for (int i = 0; i < KEPT; i++) {
                keptKeys[i] = 0;
            }
            for (int i = 0; i < above.length; i++) {
                above[i] = 0;
            }
            for (int i = 0; i <= NULL; i++) {
                int t = rows.add();
                rows.put(t, TAG, i - 1);
            }
        }

        // ---- making types

        /** The type with this tag that has as arguments what was pushed behind a mark: it is made if it isn't there. */
        private int find(int tag, int of, int from) {
            int h = tag * 31 + of;
            for (int i = from; i < workTop; i++) {
                h = h * 31 + work[i];
            }
            h = (h ^ (h >>> 12)) & (BUCKETS - 1);
            int many = workTop - from;
            int key = tag + TAGS * many;
            for (int t = heads[h]; t != 0; t = rows.get(t, CHAIN)) {
                if (rows.get(t, OF) == of && rows.get(t, TAG) == key && sameArgs(t, from)) {
                    workTop = from;
                    return t;
                }
            }
            int first = keepList(from);
            int t = rows.add();
            if (t < 0) {
                return 0;
            }
            rows.put(t, TAG, key);
            rows.put(t, OF, of);
            rows.put(t, FIRST, first);
            rows.put(t, CHAIN, heads[h]);
            heads[h] = t;
            return t;
        }

        private boolean sameArgs(int t, int from) {
            int first = rows.get(t, FIRST);
            for (int i = from; i < workTop; i++) {
                if (args.get(first + i - from, 0) != work[i]) {
                    return false;
                }
            }
            return true;
        }

        int workMark() {
            return workTop;
        }

        void pushWork(int t) {
            if (workTop < work.length) {
                work[workTop] = t;
                workTop++;
            }
        }

        /** A kind with the arguments that were pushed behind the mark. */
        int kindWith(int k, int mark) {
            return find(TAG_KIND, k, mark);
        }

        int kindType(int k) {
            return find(TAG_KIND, k, workTop);
        }

        int objectType() {
            return find(TAG_KIND, OBJECT, workTop);
        }

        int varType(int v) {
            return find(TAG_VAR, v, workTop);
        }

        int arrayOf(int t) {
            return t == 0 ? 0 : find(TAG_ARRAY, t, workTop);
        }

        int arrayOf(int t, int dims) {
            int made = t;
            for (int i = 0; i < dims; i++) {
                made = arrayOf(made);
            }
            return made;
        }

        /** Keeps a list of types that were pushed behind the mark; where it begins. */
        int keepList(int mark) {
            int base = args.size();
            for (int i = mark; i < workTop; i++) {
                args.put(args.add(), 0, work[i]);
            }
            workTop = mark;
            return base;
        }

        int listed(int i) {
            return args.get(i, 0);
        }

        // ---- looking at types

        int tag(int t) {
            return t <= NULL ? t - 1 : rows.get(t, TAG) % TAGS;
        }

        int of(int t) {
            return rows.get(t, OF);
        }

        int argCount(int t) {
            return t <= NULL ? 0 : rows.get(t, TAG) / TAGS;
        }

        int argBase(int t) {
            return rows.get(t, FIRST);
        }

        int arg(int t, int i) {
            return listed(rows.get(t, FIRST) + i);
        }

        boolean isPrim(int t) {
            return t >= BOOLEAN && t <= LONG;
        }

        boolean isRef(int t) {
            return t >= NULL;
        }

        boolean isKind(int t) {
            return tag(t) == TAG_KIND;
        }

        boolean isVar(int t) {
            return tag(t) == TAG_VAR;
        }

        boolean isArray(int t) {
            return tag(t) == TAG_ARRAY;
        }

        int dims(int t) {
            int many = 0;
            for (int i = t; isArray(i) && many < MANY; i = of(i)) {
                many++;
            }
            return many;
        }

        int behindDims(int t) {
            int i = t;
            for (int many = 0; isArray(i) && many < MANY; many++) {
                i = of(i);
            }
            return i;
        }

        int bound(int t) {
            return tree.vars.get(of(t), V_BOUND);
        }

        /** What a var stands for when its members or its box are asked. */
        int boundOf(int t) {
            int b = t;
            for (int i = 0; i < 20 && isVar(b); i++) {
                b = bound(b);
            }
            return b;
        }

        int box(int prim) {
            return isPrim(prim) ? kindType(BOOLEAN_BOX + prim - BOOLEAN) : 0;
        }

        /** The primitive type of a box, of a var that is bound by one; 0 of others. */
        int unbox(int t) {
            int b = boundOf(t);
            if (isKind(b) && of(b) >= BOOLEAN_BOX && of(b) <= LONG_BOX) {
                return BOOLEAN + of(b) - BOOLEAN_BOX;
            }
            return 0;
        }

        int prim(int t) {
            return isPrim(t) ? t : unbox(t);
        }

        boolean isNumber(int prim) {
            return prim >= BYTE && prim <= LONG;
        }

        boolean widens(int from, int to) {
            if (!isNumber(from) || !isNumber(to) || from == to) {
                return false;
            }
            if (to == LONG || to == INT) {
                return from < to;
            }
            return to == SHORT && from == BYTE;
        }

        int promoted(int a) {
            return a == LONG ? LONG : INT;
        }

        int promoted(int a, int b) {
            return a == LONG || b == LONG ? LONG : INT;
        }

        boolean reifiable(int t) {
            int b = behindDims(t);
            return isPrim(b) || (isKind(b) && argCount(b) == 0);
        }

        int erasure(int t) {
            if (t <= NULL) {
                return t;
            }
            int b = boundOf(behindDims(t));
            return arrayOf(isKind(b) ? kindType(of(b)) : b, dims(t));
        }

        // ---- putting types for vars

        void bindNone() {
            countA = 0;
            countB = 0;
        }

        /** The vars of the type's kind stand for its arguments. */
        void bindKind(int t) {
            countA = 0;
            if (isKind(t) && argCount(t) > 0) {
                firstA = tree.kinds.get(of(t), K_VAR0);
                countA = argCount(t);
                argsA = argBase(t);
            }
        }

        /** The vars of a method stand for a list. */
        void bindMethod(int m, int list) {
            countB = 0;
            if (tree.methods.get(m, M_VARS) > 0 && list != NONE) {
                firstB = tree.methods.get(m, M_VAR0);
                countB = tree.methods.get(m, M_VARS);
                argsB = list;
            }
        }

        /** The type with what its vars stand for; each part of it is looked at once. */
        int put(int t) {
            if (countA == 0 && countB == 0) {
                return t;
            }
            rounds++;
            int top = 0;
            open[0] = t;
            for (int i = 0; i < MANY && top >= 0 && top < open.length - 1; i++) {
                int part = unknownPart(open[top]);
                if (part != 0) {
                    top++;
                    open[top] = part;
                } else {
                    setImage(open[top], putOne(open[top]));
                    top--;
                }
            }
            return image(t);
        }

        /** What a type became in this round, 0 if it isn't known yet. */
        private int image(int t) {
            return images.get(t, 0) == rounds ? images.get(t, 1) : 0;
        }

        private void setImage(int t, int made) {
            for (int i = images.size(); i <= t; i++) {
                images.add();
            }
            images.put(t, 0, rounds);
            images.put(t, 1, made);
        }

        /** The first part of a type that has no image yet, or 0. */
        private int unknownPart(int t) {
            if (isArray(t)) {
                return image(of(t)) == 0 ? of(t) : 0;
            }
            for (int i = 0; i < argCount(t); i++) {
                if (image(arg(t, i)) == 0) {
                    return arg(t, i);
                }
            }
            return 0;
        }

        /** A type whose parts have their images. */
        private int putOne(int t) {
            if (isVar(t)) {
                int v = of(t);
                if (v >= firstA && v < firstA + countA) {
                    return listed(argsA + v - firstA);
                }
                if (v >= firstB && v < firstB + countB) {
                    return listed(argsB + v - firstB);
                }
                return t;
            }
            if (isArray(t)) {
                return arrayOf(image(of(t)));
            }
            if (argCount(t) == 0) {
                return t;
            }
            int mark = workMark();
            for (int i = 0; i < argCount(t); i++) {
                pushWork(image(arg(t, i)));
            }
            return kindWith(of(t), mark);
        }

        // ---- what is below what

        int aboveOf(int k, int j) {
            boolean there = k >= 0 && k < ALL_KINDS && j >= 0 && j < ALL_KINDS;
            return there ? above[k * ALL_KINDS + j] : 0;
        }

        void setAbove(int k, int j, int t) {
            if (k >= 0 && k < ALL_KINDS && j >= 0 && j < ALL_KINDS) {
                above[k * ALL_KINDS + j] = t;
            }
        }

        boolean kindBelow(int k, int j) {
            return j == OBJECT || aboveOf(k, j) != 0;
        }

        /** The type of kind k that this type is below of, or 0. It may bind anew. */
        int asSuper(int t, int k) {
            int b = boundOf(t);
            if (k == OBJECT && isRef(b)) {
                return objectType();
            }
            if (!isKind(b)) {
                return 0;
            }
            int up = aboveOf(of(b), k);
            if (up == 0 || of(b) == k) {
                return up == 0 ? 0 : b;
            }
            if (argCount(b) == 0 && tree.kinds.get(of(b), K_VARS) > 0) {
                return erasure(up);
            }
            return superOf(b, k, up);
        }

        /** The latest answers are kept, as overloaded methods ask for the same ones again and again. */
        private int superOf(int b, int k, int up) {
            int at = (b * 31 + k) & (KEPT - 1);
            int key = b * ALL_KINDS + k;
            if (keptKeys[at] != key) {
                bindNone();
                bindKind(b);
                keptTypes[at] = put(up);
                keptKeys[at] = key;
            }
            return keptTypes[at];
        }

        boolean subtype(int from, int to) {
            if (from == 0 || to == 0) {
                return false;
            }
            if (from == to) {
                return true;
            }
            if (!isRef(from) || !isRef(to) || to == NULL) {
                return false;
            }
            if (from == NULL || (isKind(to) && of(to) == OBJECT)) {
                return true;
            }
            int low = from;
            for (int i = 0; i < 20 && isVar(low); i++) {
                low = bound(low);
                if (low == to) {
                    return true;
                }
            }
            if (isArray(low) && isArray(to)) {
                return subtypeRow(low, to);
            }
            return kindSubtype(low, to);
        }

        /** Of kinds; what has vars but no arguments is an erasure, below which all its types are. */
        private boolean kindSubtype(int low, int to) {
            if (!isKind(low) || !isKind(to)) {
                return false;
            }
            if (argCount(to) == 0 && tree.kinds.get(of(to), K_VARS) > 0) {
                return kindBelow(of(low), of(to));
            }
            return asSuper(low, of(to)) == to || (tree.kinds.get(of(low), K_TWICE) == 1 && reachesBesides(low, to));
        }

        /**
         * Of a kind that has one interface by two lists of arguments: whether one of its ways leads there.
         * They are gone from above, so that each kind on them is met with parts of the goal's arguments alone.
         */
        private boolean reachesBesides(int low, int to) {
            wants.cut(0);
            wants.put(wants.add(), 0, of(to));
            for (int i = 0; i < argCount(to); i++) {
                wants.put(0, 1 + i, arg(to, i));
            }
            for (int w = 0; w < MANY && w < wants.size(); w++) {
                if (wants.get(w, 0) == of(low) && meets(low, w)) {
                    return true;
                }
                for (int k = BUILT_INS; k < tree.kinds.size(); k++) {
                    if (kindBelow(of(low), k)) {
                        goDown(k, tree.kinds.get(k, K_EXT), w);
                        goDown(k, tree.kinds.get(k, K_IMPL), w);
                    }
                }
            }
            return false;
        }

        /** Whether a type has the arguments that are wanted (0: any). */
        private boolean meets(int t, int w) {
            for (int i = 0; i < argCount(t); i++) {
                int wanted = wants.get(w, 1 + i);
                if (wanted != 0 && wanted != arg(t, i)) {
                    return false;
                }
            }
            return true;
        }

        /** What is wanted of kind k, that hangs from a list's types, if what row w wants of one of them is to hold. */
        private void goDown(int k, int list, int w) {
            for (int n = list; n != 0; n = tree.node(n, NX)) {
                int up = tree.node(n, TY);
                if (of(up) == wants.get(w, 0)) {
                    int row = wants.add();
                    wants.put(row, 0, k);
                    boolean fits = true;
                    for (int i = 0; i < argCount(up) && fits; i++) {
                        int wanted = wants.get(w, 1 + i);
                        fits = wanted == 0 || matches(arg(up, i), wanted, row);
                    }
                    if (!fits || wantedBefore(row)) {
                        wants.cut(row);
                    }
                }
            }
        }

        /** Whether a type as a kind tells it becomes another one; what its vars must be then goes into the row. */
        private boolean matches(int pattern, int value, int row) {
            int first = tree.kinds.get(wants.get(row, 0), K_VAR0);
            int top = 0;
            open[0] = pattern;
            open[1] = value;
            for (int i = 0; i < MANY && top >= 0; i++) {
                int p = open[top];
                int v = open[top + 1];
                top -= 2;
                if (isVar(p)) {
                    int known = wants.get(row, 1 + of(p) - first);
                    if (known != 0 && known != v) {
                        return false;
                    }
                    wants.put(row, 1 + of(p) - first, v);
                } else if (isArray(p) && isArray(v)) {
                    top = pushPair(top, of(p), of(v));
                } else if (tag(p) != tag(v) || of(p) != of(v) || argCount(p) != argCount(v)) {
                    return false;
                } else {
                    for (int j = 0; j < argCount(p); j++) {
                        top = pushPair(top, arg(p, j), arg(v, j));
                    }
                }
            }
            return true;
        }

        private int pushPair(int top, int p, int v) {
            int next = top + 2;
            if (next + 1 >= open.length) {
                return top;
            }
            open[next] = p;
            open[next + 1] = v;
            return next;
        }

        private boolean wantedBefore(int row) {
            for (int w = 0; w < row; w++) {
                boolean same = true;
                for (int i = 0; i <= 4 && same; i++) {
                    same = wants.get(w, i) == wants.get(row, i);
                }
                if (same) {
                    return true;
                }
            }
            return false;
        }

        private boolean subtypeRow(int from, int to) {
            int a = from;
            int b = to;
            for (int i = 0; i < MANY && isArray(a) && isArray(b); i++) {
                a = of(a);
                b = of(b);
            }
            if (isArray(b) || !isRef(a) || !isRef(b)) {
                return a == b;
            }
            if (isArray(a)) {
                return isKind(b) && of(b) == OBJECT;
            }
            return subtypeOne(a, b);
        }

        /** As subtype, of what is no array. */
        private boolean subtypeOne(int from, int to) {
            if (from == to || (isKind(to) && of(to) == OBJECT)) {
                return true;
            }
            int low = from;
            for (int i = 0; i < 20 && isVar(low); i++) {
                low = bound(low);
                if (low == to) {
                    return true;
                }
            }
            return kindSubtype(low, to);
        }

        /** Below, of primitive types too [4.10]. */
        boolean below(int from, int to) {
            return isPrim(from) && isPrim(to) ? from == to || widens(from, to) : subtype(from, to);
        }

        // ---- conversions

        /** Whether a value goes there by phase 1 (strict) or 2 (loose) [5.3]. */
        boolean goes(int from, int to, boolean loose) {
            if (below(from, to)) {
                return true;
            }
            if (!loose) {
                return false;
            }
            if (isPrim(from)) {
                return isRef(to) && subtype(box(from), to);
            }
            int p = isPrim(to) && from != NULL ? unbox(from) : 0;
            return p != 0 && below(p, to);
        }

        /** The conversion that brings a value there, if one does. */
        int conversion(int from, int to) {
            if (from == to) {
                return 0;
            }
            if (isPrim(from) && isPrim(to)) {
                return widens(from, to) ? 1 : from == BYTE && to == CHAR ? 11 : 2;
            }
            if (isPrim(from)) {
                return box(from) == to ? 3 : 4;
            }
            if (isPrim(to)) {
                return unbox(from) == to ? 5 : 6;
            }
            return 7;
        }

        boolean fits(long value, int prim) {
            switch (prim) {
                case BYTE: return value >= -128 && value <= 127;
                case SHORT: return value >= -32768 && value <= 32767;
                case CHAR: return value >= 0 && value <= 65535;
                default: return false;
            }
        }

        /** What a cast does, as a conversion's number; -1 if it can't be [5.5]. */
        int cast(int from, int to) {
            if (from == to) {
                return 0;
            }
            if (isPrim(from) && isPrim(to)) {
                return from == BOOLEAN || to == BOOLEAN ? -1 : conversion(from, to);
            }
            if (isPrim(from)) {
                return subtype(box(from), to) ? conversion(from, to) : -1;
            }
            if (isPrim(to)) {
                int p = from == NULL ? 0 : unbox(from);
                if (p != 0) {
                    return p == to ? 5 : widens(p, to) ? 6 : -1;
                }
                return from != NULL && narrows(from, box(to)) ? 12 : -1;
            }
            if (subtype(from, to)) {
                return 7;
            }
            if (from == NULL || !narrows(from, to)) {
                return -1;
            }
            return unchecked(from, to) ? 10 : 9;
        }

        /** A narrowing reference conversion [5.1.6.1]; of arrays it is asked of what is in both. */
        private boolean narrows(int from, int to) {
            int a = from;
            int b = to;
            for (int i = 0; i < MANY && isArray(a) && isArray(b); i++) {
                a = of(a);
                b = of(b);
            }
            return isRef(a) && isRef(b) && narrowsOne(a, b, 0);
        }

        private boolean narrowsOne(int from, int to, int depth) {
            if (depth > 20 || apart(from, to)) {
                return false;
            }
            if (isVar(to)) {
                int b = bound(to);
                if (subtype(from, b) || narrowsOne(from, b, depth + 1)) {
                    return true;
                }
            }
            if (isVar(from)) {
                return narrowsOne(bound(from), to, depth + 1);
            }
            if (isArray(to)) {
                return isKind(from) && of(from) == OBJECT;
            }
            return isKind(from) && isKind(to) && !disjoint(of(from), of(to));
        }

        private boolean disjoint(int a, int b) {
            if (kindBelow(a, b) || kindBelow(b, a)) {
                return false;
            }
            boolean faceA = tree.isInterface(a);
            boolean faceB = tree.isInterface(b);
            if (faceA && faceB) {
                return false;
            }
            if (faceA || faceB) {
                return tree.kinds.has(faceA ? b : a, K_FLAGS, FINAL);
            }
            return true;
        }

        /** Whether one kind stands above both with arguments that can't be the same [4.5]. */
        private boolean apart(int from, int to) {
            for (int k = BUILT_INS; k < tree.kinds.size(); k++) {
                if (tree.kinds.get(k, K_VARS) > 0) {
                    int x = asSuper(from, k);
                    int y = asSuper(to, k);
                    if (x != 0 && y != 0 && x != y && distinct(x, y)) {
                        return true;
                    }
                }
            }
            return false;
        }

        private boolean distinct(int x, int y) {
            for (int i = 0; i < argCount(x) && i < argCount(y); i++) {
                int a = arg(x, i);
                int b = arg(y, i);
                if (a != b) {
                    if (!isVar(a) && !isVar(b)) {
                        return true;
                    }
                    int ea = erasure(a);
                    int eb = erasure(b);
                    if (!subtype(ea, eb) && !subtype(eb, ea)) {
                        return true;
                    }
                }
            }
            return false;
        }

        /** Whether a narrowing conversion leaves arguments or a var unseen [5.1.6.2]. */
        private boolean unchecked(int from, int to) {
            int a = from;
            int b = to;
            for (int i = 0; i < MANY && isArray(b); i++) {
                if (!isArray(a)) {
                    return !reifiable(b);
                }
                a = of(a);
                b = of(b);
            }
            if (isVar(b)) {
                return true;
            }
            if (!isKind(b) || argCount(b) == 0) {
                return false;
            }
            a = boundOf(a);
            return !(subtype(b, a) && isKind(a) && settled(of(b), of(a)));
        }

        /** Whether the arguments of kind a above kind b say all arguments of b. */
        private boolean settled(int b, int a) {
            int up = aboveOf(b, a);
            for (int i = 0; i < tree.kinds.get(b, K_VARS); i++) {
                if (!mentions(up, varType(tree.kinds.get(b, K_VAR0) + i))) {
                    return false;
                }
            }
            return true;
        }

        /** Whether a var stands somewhere in a type; each part of it is looked at once. */
        private boolean mentions(int t, int v) {
            rounds++;
            int top = 0;
            open[0] = t;
            for (int i = 0; i < MANY && top >= 0 && top < open.length - 1; i++) {
                int part = unknownPart(open[top]);
                if (part != 0) {
                    top++;
                    open[top] = part;
                } else {
                    setImage(open[top], NULL);
                    top--;
                }
            }
            return image(v) != 0;
        }
    }

    /** Judges declarations: faults 30 to 38; knows what each kind inherits. */
    private static final class Heads {
        private final Tree tree;
        private final Types types;
        private final Rows members = new Rows(5400, 1, 0);
        private final int[] order = new int[ALL_KINDS];
        private int ordered;
        private final int[] supers = new int[8];
        private int superCount;

        Heads(Tree tree, Types types) {
            this.tree = tree;
            this.types = types;
        }

        // ---- first: 30, 31, 33, 34

        void judgeNames() {
            int nodes = tree.nodes.size();
            for (int n = 1; n < nodes; n++) {
                if (tree.node(n, KD) == X_TYPE) {
                    resolve(n);
                }
            }
            for (int v = 0; v < tree.vars.size(); v++) {
                int b = tree.vars.get(v, V_BNODE);
                tree.vars.put(v, V_BOUND, b == 0 ? types.objectType() : tree.node(b, TY));
            }
            for (int s = 0; s < tree.scopes.size(); s++) {
                judgeVars(s);
            }
            for (int k = BUILT_INS; k < tree.kinds.size(); k++) {
                if (tree.kindNamed(tree.kinds.get(k, K_NAME)) != k) {
                    tree.report(30, tree.kinds.get(k, K_PLACE));
                }
                findParent(k);
            }
            for (int k = BUILT_INS; k < tree.kinds.size(); k++) {
                judgeHangs(k);
                judgeKindMods(k);
                judgeFields(k);
                for (int m = tree.kinds.get(k, K_M0); m < tree.kinds.get(k, K_M1); m++) {
                    judgeMethodMods(k, m);
                }
            }
        }

        private void judgeVars(int s) {
            int first = tree.scopes.get(s, C_VAR0);
            int behind = first + tree.scopes.get(s, C_VARS);
            for (int v = first; v < behind; v++) {
                for (int w = first; w < v; w++) {
                    if (tree.vars.get(w, V_NAME) == tree.vars.get(v, V_NAME)) {
                        tree.report(30, tree.vars.get(v, V_PLACE));
                    }
                }
                int b = tree.vars.get(v, V_BOUND);
                for (int i = 0; i < 20 && types.isVar(b); i++) {
                    if (types.of(b) == v) {
                        tree.report(33, tree.vars.get(v, V_PLACE));
                        break;
                    }
                    b = types.bound(b);
                }
            }
        }

        private int varIn(int s, int name) {
            int first = tree.scopes.get(s, C_VAR0);
            for (int v = first; v < first + tree.scopes.get(s, C_VARS); v++) {
                if (tree.vars.get(v, V_NAME) == name) {
                    return v;
                }
            }
            return -1;
        }

        /** The var that a name means in a scope; -1 none, -2 one that may not stand in what is static. */
        int varNamed(int s, int name) {
            int v = varIn(s, name);
            int head = tree.kinds.get(tree.scopes.get(s, C_KIND), K_SCOPE);
            if (v < 0 && s != head) {
                v = varIn(head, name);
                if (v >= 0 && tree.scopes.get(s, C_STATIC) == 1) {
                    return -2;
                }
            }
            return v;
        }

        /** Finds what a type's name means [6.5.5]; CC of the node says that it was looked for. */
        private void resolve(int n) {
            if (tree.node(n, CC) != 0) {
                return;
            }
            tree.set(n, CC, 1);
            int prim = tree.node(n, OP);
            int t = prim != 0 ? prim : resolveName(n);
            tree.set(n, TY, t == 0 ? 0 : types.arrayOf(t, tree.node(n, CD)));
        }

        private int resolveName(int n) {
            boolean sound = true;
            int given = 0;
            for (int a = tree.node(n, CA); a != 0; a = tree.node(a, NX)) {
                resolve(a);
                sound = sound && tree.node(a, TY) != 0;
                given++;
            }
            int v = varNamed(tree.node(n, XT), tree.node(n, NM));
            int k = v == -1 ? tree.kindNamed(tree.node(n, NM)) : -1;
            tree.set(n, SY, k + 1);
            int wanted = v >= 0 ? 0 : tree.kinds.get(k, K_VARS);
            if ((v < 0 && k < 0) || given != wanted) {
                tree.report(31, tree.node(n, PL));
                return 0;
            }
            if (!sound) {
                return 0;
            }
            if (v >= 0) {
                return types.varType(v);
            }
            int mark = types.workMark();
            for (int a = tree.node(n, CA); a != 0; a = tree.node(a, NX)) {
                types.pushWork(tree.node(a, TY));
            }
            return types.kindWith(k, mark);
        }

        /** The kind that a type's name means, whatever its type arguments are; -1 if it means none. */
        private int kindMeant(int n) {
            return n == 0 ? -1 : tree.node(n, SY) - 1;
        }

        private void findParent(int k) {
            tree.kinds.put(k, K_PARENT, OBJECT);
            int up = kindMeant(tree.kinds.get(k, K_EXT));
            if (up >= 0 && !tree.isInterface(up)) {
                tree.kinds.put(k, K_PARENT, up);
            }
        }

        private void judgeHangs(int k) {
            int ext = tree.kinds.get(k, K_EXT);
            if (ext != 0) {
                judgeHang(k, ext, false);
                int up = tree.kinds.get(k, K_PARENT);
                for (int i = 0; i < ALL_KINDS && up > THROWABLE; i++) {
                    up = tree.kinds.get(up, K_PARENT);
                }
                if (up == THROWABLE && tree.kinds.get(k, K_VARS) > 0) {
                    tree.report(33, tree.node(ext, PL));
                }
            }
            int first = tree.kinds.get(k, K_IMPL);
            for (int n = first; n != 0; n = tree.node(n, NX)) {
                judgeHang(k, n, true);
                for (int o = first; o != n && o != 0; o = tree.node(o, NX)) {
                    if (kindMeant(n) >= 0 && kindMeant(n) == kindMeant(o)) {
                        tree.report(33, tree.node(n, PL));
                    }
                }
            }
        }

        /** What hangs is told by its name: a fault in its type arguments hides none here. */
        private void judgeHang(int k, int n, boolean face) {
            int up = kindMeant(n);
            if (up < 0) {
                if (types.isVar(tree.node(n, TY))) {
                    tree.report(33, tree.node(n, PL));
                }
                return;
            }
            boolean last = !face && tree.kinds.has(up, K_FLAGS, FINAL);
            if (tree.isInterface(up) != face || last || up == k || reaches(up, k)) {
                tree.report(33, tree.node(n, PL));
            }
        }

        /** Whether a kind hangs from another one. */
        private boolean reaches(int from, int goal) {
            long seen = 1L << from;
            for (int round = 0; round < ALL_KINDS; round++) {
                long before = seen;
                for (int k = BUILT_INS; k < tree.kinds.size(); k++) {
                    if ((seen >> k & 1) == 1) {
                        seen |= hung(tree.kinds.get(k, K_EXT)) | hung(tree.kinds.get(k, K_IMPL));
                    }
                }
                if (seen == before) {
                    break;
                }
            }
            return (seen >> goal & 1) == 1;
        }

        private long hung(int list) {
            long set = 0;
            for (int n = list; n != 0; n = tree.node(n, NX)) {
                if (kindMeant(n) >= 0) {
                    set |= 1L << kindMeant(n);
                }
            }
            return set;
        }

        private void judgeMods(int mods, int bad, int notAbstract) {
            int seen = 0;
            int access = PUBLIC | PROTECTED | PRIVATE;
            for (int n = mods; n != 0; n = tree.node(n, NX)) {
                int flag = tree.node(n, OP);
                boolean wrong = (seen & flag) != 0 || (bad & flag) != 0;
                wrong = wrong || ((flag & access) != 0 && (seen & access) != 0);
                wrong = wrong || (flag == ABSTRACT && (seen & notAbstract) != 0);
                wrong = wrong || ((flag & notAbstract) != 0 && (seen & ABSTRACT) != 0);
                if (wrong) {
                    tree.report(34, tree.node(n, PL));
                }
                seen |= flag;
            }
        }

        private void judgeKindMods(int k) {
            int bad = PRIVATE | PROTECTED | STATIC | (tree.isInterface(k) ? FINAL : 0);
            judgeMods(tree.kinds.get(k, K_MODS), bad, FINAL);
        }

        private void judgeFields(int k) {
            boolean face = tree.isInterface(k);
            for (int f = tree.kinds.get(k, K_F0); f < tree.kinds.get(k, K_F1); f++) {
                int place = tree.fields.get(f, F_PLACE);
                if (tree.fieldIn(k, tree.fields.get(f, F_NAME)) != f) {
                    tree.report(30, place);
                }
                judgeMods(tree.fields.get(f, F_MODS), ABSTRACT | (face ? PROTECTED | PRIVATE | STATIC | FINAL : 0), 0);
                if (face) {
                    tree.report(34, place);
                }
                int t = tree.node(tree.fields.get(f, F_TNODE), TY);
                tree.fields.put(f, F_TYPE, types.arrayOf(t, tree.fields.get(f, F_DIMS)));
            }
        }

        private void judgeMethodMods(int k, int m) {
            boolean face = tree.isInterface(k);
            int flags = tree.methods.get(m, M_FLAGS);
            int place = tree.methods.get(m, M_PLACE);
            boolean body = tree.methods.get(m, M_BODY) != 0;
            boolean open = (flags & ABSTRACT) != 0;
            if ((flags & CTOR) != 0) {
                judgeMods(tree.methods.get(m, M_MODS), STATIC | ABSTRACT | FINAL, 0);
                if (tree.methods.get(m, M_NAME) != tree.kinds.get(k, K_NAME)) {
                    tree.report(34, place);
                }
                return;
            }
            int bad = face ? PROTECTED | PRIVATE | STATIC | FINAL : 0;
            judgeMods(tree.methods.get(m, M_MODS), bad, PRIVATE | STATIC | FINAL);
            boolean wrong = body && (face || open);
            wrong = wrong || (!body && !face && !open);
            wrong = wrong || (open && !face && !tree.kinds.has(k, K_FLAGS, ABSTRACT));
            if (wrong) {
                tree.report(34, place);
            }
            if (face) {
                tree.methods.mark(m, M_FLAGS, PUBLIC | ABSTRACT);
            }
        }

        // ---- second: 32, 35, 38

        void judgeShapes() {
            layBuiltIns();
            orderKinds();
            tree.told = tree.methods.size();
            for (int m = BUILT_METHODS; m < tree.told; m++) {
                layMethod(m);
            }
            for (int k = BUILT_INS; k < tree.kinds.size(); k++) {
                addConstructor(k);
                judgeTwins(k);
            }
            int nodes = tree.nodes.size();
            for (int n = 1; n < nodes; n++) {
                if (tree.node(n, KD) == X_TYPE && tree.node(n, CA) != 0) {
                    judgeBounds(n);
                }
                if (tree.node(n, KD) == S_CATCH) {
                    judgeThrown(tree.node(n, CA), false);
                }
            }
            for (int m = BUILT_METHODS; m < tree.told; m++) {
                for (int n = tree.methods.get(m, M_THROWS); n != 0; n = tree.node(n, NX)) {
                    judgeThrown(n, true);
                }
            }
        }

        private void layBuiltIns() {
            for (int k = 0; k < BUILT_INS; k++) {
                int own = types.kindType(k);
                tree.kinds.put(k, K_OWN, own);
                tree.kinds.put(k, K_ARGS, NONE);
                int up = k;
                for (int i = 0; i < BUILT_INS && up >= 0; i++) {
                    types.setAbove(k, up, types.kindType(up));
                    up = tree.kinds.get(up, K_PARENT);
                }
            }
            for (int m = 0; m < BUILT_METHODS; m++) {
                int mark = types.workMark();
                if (m < 5) {
                    types.pushWork(m == 0 ? BOOLEAN : m == 1 ? INT : m == 2 ? LONG : m == 3 ? CHAR : types.objectType());
                }
                tree.methods.put(m, M_FTYPES, types.keepList(mark));
                tree.methods.put(m, M_TYPE, m == 5 ? INT : VOID);
                tree.methods.put(m, M_ARGS, NONE);
            }
        }

        /** Each kind behind all it hangs from. */
        private void orderKinds() {
            ordered = 0;
            for (int round = 0; round < ALL_KINDS; round++) {
                for (int k = BUILT_INS; k < tree.kinds.size(); k++) {
                    if (tree.kinds.get(k, K_DONE) == 0 && ready(tree.kinds.get(k, K_EXT)) && ready(tree.kinds.get(k, K_IMPL))) {
                        tree.kinds.put(k, K_DONE, 1);
                        if (ordered < order.length) {
                            order[ordered] = k;
                            ordered++;
                        }
                        layAbove(k);
                    }
                }
            }
        }

        private boolean ready(int list) {
            for (int n = list; n != 0; n = tree.node(n, NX)) {
                if (tree.kinds.get(types.of(tree.node(n, TY)), K_DONE) == 0) {
                    return false;
                }
            }
            return true;
        }

        private void layAbove(int k) {
            int mark = types.workMark();
            for (int i = 0; i < tree.kinds.get(k, K_VARS); i++) {
                types.pushWork(types.varType(tree.kinds.get(k, K_VAR0) + i));
            }
            int own = types.kindWith(k, mark);
            tree.kinds.put(k, K_OWN, own);
            tree.kinds.put(k, K_ARGS, types.argCount(own) == 0 ? NONE : types.argBase(own));
            types.setAbove(k, k, own);
            types.setAbove(k, OBJECT, types.objectType());
            int ext = tree.kinds.get(k, K_EXT);
            int parent = ext == 0 ? types.objectType() : tree.node(ext, TY);
            tree.kinds.put(k, K_PTYPE, parent);
            layAboveBy(k, parent);
            for (int n = tree.kinds.get(k, K_IMPL); n != 0; n = tree.node(n, NX)) {
                layAboveBy(k, tree.node(n, TY));
            }
        }

        private void layAboveBy(int k, int t) {
            int up = types.of(t);
            if (tree.kinds.get(up, K_TWICE) == 1) {
                tree.kinds.put(k, K_TWICE, 1);
            }
            for (int j = 0; j < tree.kinds.size(); j++) {
                int there = types.aboveOf(up, j);
                if (there != 0) {
                    types.bindNone();
                    types.bindKind(t);
                    int seen = types.put(there);
                    int known = types.aboveOf(k, j);
                    if (known != 0 && known != seen) {
                        tree.kinds.put(k, K_TWICE, 1);
                    } else {
                        types.setAbove(k, j, seen);
                    }
                }
            }
        }

        private void layMethod(int m) {
            int result = tree.methods.get(m, M_RESULT);
            tree.methods.put(m, M_TYPE, result == 0 ? VOID : tree.node(result, TY));
            int mark = types.workMark();
            for (int n = tree.methods.get(m, M_FORMALS); n != 0; n = tree.node(n, NX)) {
                int t = types.arrayOf(tree.node(tree.node(n, CB), TY), tree.node(n, CD));
                types.pushWork(t);
            }
            tree.methods.put(m, M_FTYPES, types.keepList(mark));
            int vars = tree.methods.get(m, M_VARS);
            for (int i = 0; i < vars; i++) {
                types.pushWork(types.varType(tree.methods.get(m, M_VAR0) + i));
            }
            tree.methods.put(m, M_ARGS, vars == 0 ? NONE : types.keepList(mark));
        }

        /** A class without a constructor has one that isn't told. */
        private void addConstructor(int k) {
            if (tree.isInterface(k)) {
                return;
            }
            for (int m = tree.kinds.get(k, K_M0); m < tree.kinds.get(k, K_M1); m++) {
                if (tree.methods.has(m, M_FLAGS, CTOR)) {
                    return;
                }
            }
            int m = tree.methods.add();
            tree.methods.put(m, M_NAME, tree.kinds.get(k, K_NAME));
            tree.methods.put(m, M_PLACE, tree.kinds.get(k, K_PLACE));
            tree.methods.put(m, M_KIND, k);
            tree.methods.put(m, M_FLAGS, CTOR | UNTOLD);
            tree.methods.put(m, M_NUM, -200 - tree.kindNumber(k));
            tree.methods.put(m, M_TYPE, VOID);
            tree.methods.put(m, M_ARGS, NONE);
            tree.methods.put(m, M_SCOPE, tree.kinds.get(k, K_SCOPE));
            tree.kinds.put(k, K_CTOR, m);
        }

        private void judgeTwins(int k) {
            for (int m = tree.kinds.get(k, K_M0); m < tree.kinds.get(k, K_M1); m++) {
                for (int o = tree.kinds.get(k, K_M0); o < m; o++) {
                    boolean alike = tree.methods.has(m, M_FLAGS, CTOR) == tree.methods.has(o, M_FLAGS, CTOR);
                    if (alike && sameErasure(m, o)) {
                        tree.report(35, tree.methods.get(m, M_PLACE));
                    }
                }
            }
        }

        private void judgeBounds(int n) {
            int t = types.behindDims(tree.node(n, TY));
            int i = 0;
            for (int a = tree.node(n, CA); a != 0; a = tree.node(a, NX)) {
                int bound = tree.vars.get(tree.kinds.get(types.of(t), K_VAR0) + i, V_BOUND);
                types.bindNone();
                types.bindKind(t);
                if (!types.subtype(types.arg(t, i), types.put(bound))) {
                    tree.report(32, tree.node(a, PL));
                }
                i++;
            }
        }

        private void judgeThrown(int n, boolean vars) {
            int t = tree.node(n, TY);
            boolean fine = types.isKind(t) || (vars && types.isVar(t));
            if (!fine || !types.subtype(t, types.kindType(THROWABLE))) {
                tree.report(38, tree.node(n, PL));
            }
        }

        // ---- signatures

        private int viewOf(int m, int k) {
            return types.aboveOf(k, tree.methods.get(m, M_KIND));
        }

        /** A type that a method tells, as its kind's view and a list for its vars make it. */
        int seen(int m, int t, int view, int list) {
            types.bindKind(view);
            types.bindMethod(m, list);
            return types.put(t);
        }

        boolean isOwnVar(int m, int t) {
            int i = types.isVar(t) ? types.of(t) - tree.methods.get(m, M_VAR0) : -1;
            return i >= 0 && i < tree.methods.get(m, M_VARS);
        }

        int formal(int m, int i, int view, int list) {
            return seen(m, types.listed(tree.methods.get(m, M_FTYPES) + i), view, list);
        }

        boolean sameErasure(int m, int o) {
            int many = tree.methods.get(m, M_COUNT);
            if (tree.methods.get(m, M_NAME) != tree.methods.get(o, M_NAME) || many != tree.methods.get(o, M_COUNT)) {
                return false;
            }
            for (int i = 0; i < many; i++) {
                int a = types.erasure(types.listed(tree.methods.get(m, M_FTYPES) + i));
                int b = types.erasure(types.listed(tree.methods.get(o, M_FTYPES) + i));
                if (a != b) {
                    return false;
                }
            }
            return true;
        }

        private boolean sameSignature(int m, int o, int k) {
            return sameSeen(m, viewOf(m, k), o, viewOf(o, k));
        }

        /** Whether two methods with as many formals have the same signature as these views see them [8.4.2]. */
        boolean sameSeen(int m, int viewM, int o, int viewO) {
            int list = tree.methods.get(m, M_ARGS);
            if (tree.methods.get(m, M_VARS) != tree.methods.get(o, M_VARS)) {
                return false;
            }
            for (int i = 0; i < tree.methods.get(m, M_VARS); i++) {
                int a = seen(m, tree.vars.get(tree.methods.get(m, M_VAR0) + i, V_BOUND), viewM, NONE);
                int b = seen(o, tree.vars.get(tree.methods.get(o, M_VAR0) + i, V_BOUND), viewO, list);
                if (a != b) {
                    return false;
                }
            }
            for (int i = 0; i < tree.methods.get(m, M_COUNT); i++) {
                if (formal(m, i, viewM, NONE) != formal(o, i, viewO, list)) {
                    return false;
                }
            }
            return true;
        }

        /** Whether the signature of m is a subsignature of that of o, as kind k sees both [8.4.2]. */
        private boolean subsignature(int m, int o, int k) {
            int many = tree.methods.get(m, M_COUNT);
            if (tree.methods.get(m, M_NAME) != tree.methods.get(o, M_NAME) || many != tree.methods.get(o, M_COUNT)) {
                return false;
            }
            if (sameSignature(m, o, k)) {
                return true;
            }
            if (tree.methods.get(m, M_VARS) > 0) {
                return false;
            }
            int viewM = viewOf(m, k);
            int viewO = viewOf(o, k);
            for (int i = 0; i < many; i++) {
                if (formal(m, i, viewM, NONE) != erased(o, types.listed(tree.methods.get(o, M_FTYPES) + i), viewO)) {
                    return false;
                }
            }
            return true;
        }

        /** The erasure of a type that a method tells, as a view sees it: the bounds of the method's own vars, too. */
        private int erased(int m, int t, int view) {
            int part = types.behindDims(t);
            int first = tree.methods.get(m, M_VAR0);
            for (int i = 0; i < 4 && types.isVar(part); i++) {
                int v = types.of(part) - first;
                if (v >= 0 && v < tree.methods.get(m, M_VARS)) {
                    part = types.bound(part);
                }
            }
            return types.arrayOf(types.erasure(seen(m, part, view, NONE)), types.dims(t));
        }

        /** Whether the result of m can stand for that of o [8.4.5]. */
        private boolean resultFits(int m, int o, int k) {
            int viewM = viewOf(m, k);
            int viewO = viewOf(o, k);
            boolean renamed = tree.methods.get(m, M_VARS) == tree.methods.get(o, M_VARS);
            int a = seen(m, tree.methods.get(m, M_TYPE), viewM, NONE);
            int b = seen(o, tree.methods.get(o, M_TYPE), viewO, renamed ? tree.methods.get(m, M_ARGS) : NONE);
            if (!types.isRef(a) || !types.isRef(b)) {
                return a == b;
            }
            if (types.subtype(a, b)) {
                return true;
            }
            return !sameSignature(m, o, k) && a == erased(o, tree.methods.get(o, M_TYPE), viewO);
        }

        boolean isChecked(int t) {
            return !types.subtype(t, types.kindType(RUNTIME)) && !types.subtype(t, types.kindType(ERROR));
        }

        private boolean throwsFit(int m, int o, int k) {
            int viewM = viewOf(m, k);
            int viewO = viewOf(o, k);
            boolean renamed = tree.methods.get(m, M_VARS) == tree.methods.get(o, M_VARS);
            int list = renamed ? tree.methods.get(m, M_ARGS) : NONE;
            for (int n = tree.methods.get(m, M_THROWS); n != 0; n = tree.node(n, NX)) {
                int t = seen(m, tree.node(n, TY), viewM, NONE);
                boolean told = !isChecked(t);
                for (int e = tree.methods.get(o, M_THROWS); e != 0 && !told; e = tree.node(e, NX)) {
                    int u = seen(o, tree.node(e, TY), viewO, list);
                    told = types.subtype(t, u);
                }
                if (!told) {
                    return false;
                }
            }
            return true;
        }

        private static int rank(int flags) {
            return (flags & PUBLIC) != 0 ? 3 : (flags & PROTECTED) != 0 ? 2 : (flags & PRIVATE) != 0 ? 0 : 1;
        }

        /** Whether m, that overrides or hides o, breaks a rule of [8.4.8.3]. */
        private boolean breaks(int m, int o, int k) {
            int a = tree.methods.get(m, M_FLAGS);
            int b = tree.methods.get(o, M_FLAGS);
            if ((a & STATIC) != (b & STATIC) || (b & FINAL) != 0 || rank(a) < rank(b)) {
                return true;
            }
            return !resultFits(m, o, k) || !throwsFit(m, o, k);
        }

        // ---- third: 36, 37

        void judgeMembers() {
            members.cut(0);
            for (int k = 0; k < BUILT_INS; k++) {
                tree.kinds.put(k, K_MEM0, members.size());
                for (int m = tree.kinds.get(k, K_M0); m < tree.kinds.get(k, K_M1); m++) {
                    addMember(m);
                }
                tree.kinds.put(k, K_MEM1, members.size());
            }
            for (int i = 0; i < ordered; i++) {
                inherit(order[i]);
            }
            for (int k = BUILT_INS; k < tree.kinds.size(); k++) {
                for (int m = tree.kinds.get(k, K_M0); m < tree.kinds.get(k, K_M1); m++) {
                    if (!tree.methods.has(m, M_FLAGS, CTOR)) {
                        judgeOverride(k, m);
                    }
                }
                judgeInherited(k);
            }
        }

        int member(int i) {
            return members.get(i, 0);
        }

        private void addMember(int m) {
            members.put(members.add(), 0, m);
        }

        private boolean hasMember(int k, int m) {
            for (int i = tree.kinds.get(k, K_MEM0); i < tree.kinds.get(k, K_MEM1); i++) {
                if (member(i) == m) {
                    return true;
                }
            }
            return false;
        }

        private boolean covered(int from, int to, int m, int k) {
            for (int i = from; i < to; i++) {
                if (member(i) != m && subsignature(member(i), m, k)) {
                    return true;
                }
            }
            return false;
        }

        private void findSupers(int k) {
            superCount = 0;
            if (!tree.isInterface(k)) {
                supers[0] = tree.kinds.get(k, K_PARENT);
                superCount = 1;
            }
            for (int n = tree.kinds.get(k, K_IMPL); n != 0 && superCount < supers.length; n = tree.node(n, NX)) {
                supers[superCount] = types.of(tree.node(n, TY));
                superCount++;
            }
        }

        /** Lays the methods that a kind has: its own, then what it inherits [8.4.8], [9.4.1]. */
        private void inherit(int k) {
            int from = members.size();
            tree.kinds.put(k, K_MEM0, from);
            for (int m = tree.kinds.get(k, K_M0); m < tree.kinds.get(k, K_M1); m++) {
                if (!tree.methods.has(m, M_FLAGS, CTOR)) {
                    addMember(m);
                }
            }
            int own = members.size();
            findSupers(k);
            if (!tree.isInterface(k)) {
                int p = tree.kinds.get(k, K_PARENT);
                for (int i = tree.kinds.get(p, K_MEM0); i < tree.kinds.get(p, K_MEM1); i++) {
                    int m = member(i);
                    if (!tree.methods.has(m, M_FLAGS, PRIVATE | ABSTRACT) && !covered(from, own, m, k)) {
                        addMember(m);
                    }
                }
            }
            int concrete = members.size();
            for (int s = 0; s < superCount; s++) {
                int d = supers[s];
                for (int i = tree.kinds.get(d, K_MEM0); i < tree.kinds.get(d, K_MEM1); i++) {
                    int m = member(i);
                    if (tree.methods.has(m, M_FLAGS, ABSTRACT) && !covered(from, concrete, m, k)
                        && !overriddenBeside(m, d, k) && !listedFrom(from, m)) {
                        addMember(m);
                    }
                }
            }
            tree.kinds.put(k, K_MEM1, members.size());
        }

        private boolean listedFrom(int from, int m) {
            for (int i = from; i < members.size(); i++) {
                if (member(i) == m) {
                    return true;
                }
            }
            return false;
        }

        private boolean overriddenBeside(int m, int d, int k) {
            for (int s = 0; s < superCount; s++) {
                int o = supers[s];
                if (o != d && types.kindBelow(o, tree.methods.get(m, M_KIND)) && !hasMember(o, m)
                    && covered(tree.kinds.get(o, K_MEM0), tree.kinds.get(o, K_MEM1), m, k)) {
                    return true;
                }
            }
            return false;
        }

        private void judgeOverride(int k, int m) {
            for (int j = BUILT_INS; j < tree.kinds.size(); j++) {
                if (j != k && types.aboveOf(k, j) != 0) {
                    for (int o = tree.kinds.get(j, K_M0); o < tree.kinds.get(j, K_M1); o++) {
                        boolean there = !tree.methods.has(o, M_FLAGS, CTOR | PRIVATE);
                        if (there && tree.methods.get(o, M_NAME) == tree.methods.get(m, M_NAME)) {
                            boolean over = subsignature(m, o, k);
                            if (over ? breaks(m, o, k) : sameErasure(m, o)) {
                                tree.report(36, tree.methods.get(m, M_PLACE));
                            }
                        }
                    }
                }
            }
        }

        private void judgeInherited(int k) {
            int from = tree.kinds.get(k, K_MEM0);
            int to = tree.kinds.get(k, K_MEM1);
            boolean wrong = tree.kinds.get(k, K_TWICE) == 1;
            boolean whole = !tree.kinds.has(k, K_FLAGS, ABSTRACT);
            for (int i = from; i < to && !wrong; i++) {
                int m = member(i);
                wrong = whole && tree.methods.has(m, M_FLAGS, ABSTRACT);
                if (tree.methods.get(m, M_KIND) != k && !wrong) {
                    wrong = clashes(k, i, to) || breaksFaces(k, m);
                }
            }
            if (wrong) {
                tree.report(37, tree.kinds.get(k, K_PLACE));
            }
        }

        /** Whether inherited member i can't stand together with a later one. */
        private boolean clashes(int k, int i, int to) {
            int m = member(i);
            boolean open = tree.methods.has(m, M_FLAGS, ABSTRACT);
            for (int j = i + 1; j < to; j++) {
                int o = member(j);
                if (tree.methods.get(o, M_KIND) != k && tree.methods.get(o, M_NAME) == tree.methods.get(m, M_NAME)) {
                    boolean there = subsignature(m, o, k);
                    boolean back = subsignature(o, m, k);
                    if (sameErasure(m, o) && !(there && back)) {
                        return true;
                    }
                    boolean openToo = tree.methods.has(o, M_FLAGS, ABSTRACT);
                    if ((there || back) && !(open && openToo)) {
                        return true;
                    }
                    if ((there || back) && open && openToo && !someResultFits(k, m)) {
                        return true;
                    }
                }
            }
            return false;
        }

        /** Whether one of the abstract methods like m fits all of them by its result. */
        private boolean someResultFits(int k, int m) {
            int from = tree.kinds.get(k, K_MEM0);
            int to = tree.kinds.get(k, K_MEM1);
            for (int i = from; i < to; i++) {
                boolean fits = likes(k, member(i), m);
                for (int j = from; j < to && fits; j++) {
                    if (i != j && likes(k, member(j), m)) {
                        fits = resultFits(member(i), member(j), k);
                    }
                }
                if (fits) {
                    return true;
                }
            }
            return false;
        }

        private boolean likes(int k, int o, int m) {
            if (o == m) {
                return true;
            }
            boolean open = tree.methods.has(o, M_FLAGS, ABSTRACT) && tree.methods.get(o, M_KIND) != k;
            return open && (subsignature(o, m, k) || subsignature(m, o, k));
        }

        /** A class's method that is inherited, against those of the interfaces that the kind tells itself and doesn't inherit. */
        private boolean breaksFaces(int k, int m) {
            if (tree.isInterface(tree.methods.get(m, M_KIND)) || tree.isInterface(k)) {
                return false;
            }
            for (int n = tree.kinds.get(k, K_IMPL); n != 0; n = tree.node(n, NX)) {
                int face = types.of(tree.node(n, TY));
                for (int j = BUILT_INS; j < tree.kinds.size(); j++) {
                    if (types.aboveOf(face, j) != 0) {
                        for (int o = tree.kinds.get(j, K_M0); o < tree.kinds.get(j, K_M1); o++) {
                            if (!hasMember(k, o) && subsignature(m, o, k) && breaks(m, o, k)) {
                                return true;
                            }
                        }
                    }
                }
            }
            return false;
        }

        /** The method that a call of m does on an object of kind k, or -1. */
        int served(int k, int m) {
            if (!types.kindBelow(k, tree.methods.get(m, M_KIND)) || tree.methods.has(m, M_FLAGS, STATIC | PRIVATE | CTOR)) {
                return -1;
            }
            int c = k;
            for (int i = 0; i < ALL_KINDS && c >= BUILT_INS; i++) {
                for (int o = tree.kinds.get(c, K_M0); o < tree.kinds.get(c, K_M1); o++) {
                    boolean there = !tree.methods.has(o, M_FLAGS, STATIC | PRIVATE | CTOR | ABSTRACT);
                    if (there && (o == m || subsignature(o, m, k))) {
                        return o;
                    }
                }
                c = tree.kinds.get(c, K_PARENT);
            }
            return -1;
        }
    }

    /** Chooses a call's method in three phases [15.12.2]. */
    private static final class Chooser {
        private static final int MOST = 130;

        private final Tree tree;
        private final Types types;
        private final Heads heads;
        private final int[] found = new int[MOST];
        private final int[] views = new int[MOST];
        private final int[] forms = new int[MOST * 8];
        private int foundCount;
        private final int[] fit = new int[MOST];
        private int fitCount;
        private final int[] given = new int[8];
        private int givenCount;
        private int list;
        private int listCount;
        private int phase;
        private int chosen;
        private int chosenView;
        private boolean unknown;

        Chooser(Tree tree, Types types, Heads heads) {
            this.tree = tree;
            this.types = types;
            this.heads = heads;
        }

        /** A new call with these arguments, whose types are known. */
        void begin(int args, int typeArgs) {
            foundCount = 0;
            givenCount = 0;
            unknown = false;
            for (int a = args; a != 0 && givenCount < given.length; a = tree.node(a, NX)) {
                int t = tree.node(a, TY);
                unknown = unknown || t == 0 || t == VOID;
                given[givenCount] = t;
                givenCount++;
            }
            listCount = 0;
            int mark = types.workMark();
            for (int a = typeArgs; a != 0; a = tree.node(a, NX)) {
                types.pushWork(tree.node(a, TY));
                listCount++;
            }
            list = listCount == 0 ? NONE : types.keepList(mark);
        }

        boolean incomplete() {
            return unknown;
        }

        int chosenMethod() {
            return chosen;
        }

        int view() {
            return chosenView;
        }

        int phaseFound() {
            return phase;
        }

        int typeList() {
            return list;
        }

        private boolean countFits(int m) {
            int many = tree.methods.get(m, M_COUNT);
            return many == givenCount || (tree.methods.has(m, M_FLAGS, VARARGS) && givenCount >= many - 1);
        }

        /** The methods of that name that a type has; those that are private stand in their own kind alone. */
        void gather(int type, int name, int home) {
            int b = types.boundOf(type);
            if (!types.isKind(b)) {
                return;
            }
            int k = types.of(b);
            boolean near = k == home && !types.isVar(type);
            for (int i = tree.kinds.get(k, K_MEM0); i < tree.kinds.get(k, K_MEM1); i++) {
                int m = heads.member(i);
                if (tree.methods.get(m, M_NAME) == name && (near || !tree.methods.has(m, M_FLAGS, PRIVATE))) {
                    addFound(m, types.asSuper(b, tree.methods.get(m, M_KIND)));
                }
            }
        }

        void gatherConstructors(int type, int home) {
            int k = types.of(type);
            for (int m = tree.kinds.get(k, K_M0); m < tree.kinds.get(k, K_M1); m++) {
                boolean there = k == home || !tree.methods.has(m, M_FLAGS, PRIVATE);
                if (there && tree.methods.has(m, M_FLAGS, CTOR)) {
                    addFound(m, type);
                }
            }
            if (tree.kinds.get(k, K_CTOR) >= 0) {
                addFound(tree.kinds.get(k, K_CTOR), type);
            }
        }

        private void addFound(int m, int view) {
            if (foundCount < MOST && countFits(m)) {
                found[foundCount] = m;
                views[foundCount] = view;
                foundCount++;
            }
        }

        /** Whether a method with vars could be meant although no type arguments are told. */
        boolean wantsTypes() {
            for (int c = 0; c < foundCount; c++) {
                if (listCount == 0 && tree.methods.get(found[c], M_VARS) > 0) {
                    return true;
                }
            }
            return false;
        }

        /** 0 if one is chosen, else the fault: 43 or 44. */
        int choose() {
            for (int c = 0; c < foundCount; c++) {
                layForms(c);
            }
            for (phase = 1; phase <= 3; phase++) {
                fitCount = 0;
                for (int c = 0; c < foundCount; c++) {
                    if (applies(c)) {
                        fit[fitCount] = c;
                        fitCount++;
                    }
                }
                if (fitCount > 0) {
                    int best = mostSpecific();
                    if (best < 0) {
                        return 44;
                    }
                    chosen = found[best];
                    chosenView = views[best];
                    return 0;
                }
            }
            return 43;
        }

        private void layForms(int c) {
            int m = found[c];
            for (int i = 0; i < tree.methods.get(m, M_COUNT) && i < 8; i++) {
                forms[c * 8 + i] = heads.formal(m, i, views[c], list);
            }
        }

        private boolean withinBounds(int c) {
            int m = found[c];
            int vars = tree.methods.get(m, M_VARS);
            if (vars == 0) {
                return true;
            }
            if (vars != listCount) {
                return false;
            }
            for (int i = 0; i < vars; i++) {
                int bound = heads.seen(m, tree.vars.get(tree.methods.get(m, M_VAR0) + i, V_BOUND), views[c], list);
                if (!types.subtype(types.listed(list + i), bound)) {
                    return false;
                }
            }
            return true;
        }

        /** The formal for argument i, by the phase that is on. */
        private int form(int c, int i) {
            int m = found[c];
            int many = tree.methods.get(m, M_COUNT);
            if (phase < 3 || i < many - 1) {
                return i < 8 ? forms[c * 8 + i] : 0;
            }
            return many > 0 ? types.of(forms[c * 8 + many - 1]) : 0;
        }

        int formalFor(int i) {
            for (int c = 0; c < foundCount; c++) {
                if (found[c] == chosen) {
                    return form(c, i);
                }
            }
            return 0;
        }

        private boolean applies(int c) {
            int m = found[c];
            if (!withinBounds(c)) {
                return false;
            }
            if (phase < 3 ? tree.methods.get(m, M_COUNT) != givenCount : !tree.methods.has(m, M_FLAGS, VARARGS)) {
                return false;
            }
            for (int i = 0; i < givenCount; i++) {
                if (!types.goes(given[i], form(c, i), phase > 1)) {
                    return false;
                }
            }
            return true;
        }

        private boolean moreSpecific(int a, int b) {
            int many = givenCount;
            if (phase == 3 && tree.methods.get(found[b], M_COUNT) == many + 1) {
                many++;
            }
            for (int i = 0; i < many; i++) {
                if (!types.below(form(a, i), form(b, i))) {
                    return false;
                }
            }
            return true;
        }

        /** The candidate that is most specific [15.12.2.5], or -1. */
        private int mostSpecific() {
            int kept = 0;
            for (int i = 0; i < fitCount; i++) {
                boolean most = true;
                for (int j = 0; j < fitCount && most; j++) {
                    most = i == j || !moreSpecific(fit[j], fit[i]) || moreSpecific(fit[i], fit[j]);
                }
                if (most) {
                    int keep = fit[i];
                    fit[i] = fit[kept];
                    fit[kept] = keep;
                    kept++;
                }
            }
            if (kept == 1) {
                return fit[0];
            }
            return kept == 0 ? -1 : amongSame(kept);
        }

        private boolean sameForms(int a, int b) {
            int many = tree.methods.get(found[a], M_COUNT);
            if (many != tree.methods.get(found[b], M_COUNT)) {
                return false;
            }
            for (int i = 0; i < many; i++) {
                if (forms[a * 8 + i] != forms[b * 8 + i]) {
                    return false;
                }
            }
            return true;
        }

        private int amongSame(int kept) {
            int whole = -1;
            int wholes = 0;
            for (int i = 0; i < kept; i++) {
                if (!sameForms(fit[0], fit[i])) {
                    return -1;
                }
                if (!tree.methods.has(found[fit[i]], M_FLAGS, ABSTRACT)) {
                    whole = fit[i];
                    wholes++;
                }
            }
            return wholes == 0 ? lowest(kept) : wholes == 1 ? whole : -1;
        }

        /** Of abstract ones, told with the same erasures of their formals, the first one whose result is below all others'. */
        private int lowest(int kept) {
            int best = -1;
            for (int i = 0; i < kept; i++) {
                if (!heads.sameErasure(found[fit[0]], found[fit[i]])) {
                    return -1;
                }
                boolean low = best < 0 || found[fit[i]] < found[best];
                for (int j = 0; j < kept && low; j++) {
                    low = i == j || resultBelow(fit[i], fit[j]);
                }
                best = low ? fit[i] : best;
            }
            return best;
        }

        private boolean resultBelow(int a, int b) {
            int x = heads.seen(found[a], tree.methods.get(found[a], M_TYPE), views[a], list);
            int y = heads.seen(found[b], tree.methods.get(found[b], M_TYPE), views[b], list);
            return types.isRef(x) && types.isRef(y) ? types.subtype(x, y) : x == y;
        }
    }

    /** Judges bodies: names, types and conversions of all expressions, faults 40 to 56. */
    private static final class Bodies {
        private final Tree tree;
        private final Types types;
        private final Heads heads;
        private final Chooser chooser;
        private int home;
        private int spell;
        private boolean fixed;
        private boolean inCall;
        private int fieldNow;
        private int scope;
        private int wanted;
        private final int[] names = new int[64];
        private int nameCount;
        private final int[] jumps = new int[64];
        private int jumpCount;
        private int bodyLocals;
        private int aside;

        Bodies(Tree tree, Types types, Heads heads) {
            this.tree = tree;
            this.types = types;
            this.heads = heads;
            this.chooser = new Chooser(tree, types, heads);
        }

        void judgeBodies() {
            findConstants();
            for (int f = 0; f < tree.fields.size(); f++) {
                int init = tree.fields.get(f, F_INIT);
                enterField(f);
                if (init != 0) {
                    initial(init, tree.fields.get(f, F_TYPE));
                }
            }
            for (int m = BUILT_METHODS; m < tree.methods.size(); m++) {
                enterMethod(m);
                judgeMethod(m);
            }
            for (int m = BUILT_METHODS; m < tree.told; m++) {
                judgeRound(m);
            }
        }

        private void enterKind(int k) {
            home = k;
            inCall = false;
            nameCount = 0;
            jumpCount = 0;
            bodyLocals = 0;
            aside = 0;
        }

        private void enterField(int f) {
            enterKind(tree.fields.get(f, F_KIND));
            spell = -1;
            fieldNow = f;
            fixed = tree.fields.has(f, F_FLAGS, STATIC);
            scope = tree.node(tree.fields.get(f, F_TNODE), XT);
            wanted = VOID;
        }

        private void enterMethod(int m) {
            enterKind(tree.methods.get(m, M_KIND));
            spell = m;
            fieldNow = -1;
            fixed = tree.methods.has(m, M_FLAGS, STATIC);
            scope = tree.methods.get(m, M_SCOPE);
            wanted = tree.methods.get(m, M_TYPE);
        }

        /** A constant may be told by others that stand behind it, so all are asked until no more are found. */
        private void findConstants() {
            tree.quiet = true;
            boolean more = true;
            for (int round = 0; round <= 121 && more; round++) {
                more = false;
                for (int f = 0; f < tree.fields.size(); f++) {
                    int init = tree.fields.get(f, F_INIT);
                    int t = tree.fields.get(f, F_TYPE);
                    boolean may = tree.fields.has(f, F_FLAGS, FINAL) && init != 0 && types.isPrim(t);
                    if (may && tree.fields.get(f, F_CONST) == 0 && mayFold(init)) {
                        enterField(f);
                        assign(init, t);
                        if (isConstant(init) && sameSort(tree.node(init, TY), t)) {
                            tree.fields.put(f, F_CONST, 1);
                            tree.fields.putWide(f, F_LO, shaped(tree.nodes.wide(init, LO), t));
                            more = true;
                        }
                    }
                }
            }
            tree.quiet = false;
        }

        /** Whether an expression has nothing in it that is never a constant. */
        private boolean mayFold(int n) {
            switch (tree.node(n, KD)) {
                case E_NAME:
                case E_LIT: return true;
                case E_FIELD: return tree.node(tree.node(n, CA), KD) == E_NAME;
                case E_PRE:
                case E_CAST: return mayFold(tree.node(n, CA));
                case E_BIN: return mayFold(tree.node(n, CA)) && mayFold(tree.node(n, CB));
                case E_COND:
                    return mayFold(tree.node(n, CA)) && mayFold(tree.node(n, CB)) && mayFold(tree.node(n, CC));
                default: return false;
            }
        }

        private boolean sameSort(int a, int b) {
            return (a == BOOLEAN) == (b == BOOLEAN);
        }

        private boolean isConstant(int n) {
            return (tree.node(n, FL) & CONST) != 0;
        }

        /** Whether a constant may have it as its part [15.29]; in brackets only a constant may stand. */
        private boolean isPart(int n) {
            return isConstant(n) || (tree.node(n, FL) & (ABRUPT | PAREN)) == ABRUPT;
        }

        /** A number as a primitive type holds it. */
        static long shaped(long v, int prim) {
            switch (prim) {
                case BYTE: return (byte) v;
                case SHORT: return (short) v;
                case CHAR: return (char) v;
                case INT: return (int) v;
                default: return v;
            }
        }

        private void judgeMethod(int m) {
            int body = tree.methods.get(m, M_BODY);
            for (int n = tree.methods.get(m, M_FORMALS); n != 0; n = tree.node(n, NX)) {
                declare(n, types.arrayOf(tree.node(tree.node(n, CB), TY), tree.node(n, CD)), L_GIVEN);
            }
            int first = tree.node(body, CA);
            boolean calls = tree.node(first, KD) == S_THIS || tree.node(first, KD) == S_SUPER;
            if (tree.methods.has(m, M_FLAGS, CTOR)) {
                if (body != 0 && calls) {
                    inCall = true;
                    judgeConstructorCall(first);
                    inCall = false;
                    first = tree.node(first, NX);
                } else {
                    judgeSilentCall(m);
                }
            }
            for (int n = first; n != 0; n = tree.node(n, NX)) {
                statement(n);
            }
        }

        /** What a constructor that calls none calls of its parent. */
        private void judgeSilentCall(int m) {
            int parent = tree.kinds.get(home, K_PTYPE);
            chooser.begin(0, 0);
            chooser.gatherConstructors(parent, home);
            int wrong = chooser.choose();
            if (wrong != 0) {
                tree.report(wrong, tree.methods.get(m, M_PLACE));
                return;
            }
            tree.methods.put(m, M_CALLS, chooser.chosenMethod());
            tree.methods.put(m, M_PHASE, chooser.phaseFound());
            tree.methods.put(m, M_VIEW, parent);
        }

        private void judgeConstructorCall(int n) {
            for (int a = tree.node(n, CB); a != 0; a = tree.node(a, NX)) {
                value(a);
            }
            tree.set(n, SY, NONE);
            int type = tree.node(n, KD) == S_THIS ? tree.kinds.get(home, K_OWN) : tree.kinds.get(home, K_PTYPE);
            chooser.begin(tree.node(n, CB), 0);
            chooser.gatherConstructors(type, home);
            if (!chooser.incomplete()) {
                pick(n);
            }
            noteAt(n);
        }

        private void noteAt(int n) {
            int place = tree.node(n, PL);
            if (place >= 0 && place < tree.atPlace.length) {
                tree.atPlace[place] = n;
            }
        }

        /** Chooses among what was gathered and converts the arguments; false if none was chosen. */
        private boolean pick(int n) {
            int wrong = chooser.choose();
            if (wrong != 0) {
                tree.report(wrong, tree.node(n, PL));
                return false;
            }
            tree.set(n, SY, chooser.chosenMethod());
            tree.set(n, CD, chooser.view());
            tree.set(n, LO, chooser.phaseFound());
            tree.set(n, HI, chooser.typeList());
            int i = 0;
            for (int a = tree.node(n, CB); a != 0; a = tree.node(a, NX)) {
                convert(a, chooser.formalFor(i));
                i++;
            }
            return true;
        }

        /** Constructors that call themselves round [8.8.7]. */
        private void judgeRound(int m) {
            int at = m;
            for (int i = 0; i < 130; i++) {
                int first = tree.node(tree.methods.get(at, M_BODY), CA);
                if (!tree.methods.has(at, M_FLAGS, CTOR) || tree.node(first, KD) != S_THIS) {
                    return;
                }
                at = tree.node(first, SY);
                if (at == m) {
                    tree.report(49, tree.node(tree.node(tree.methods.get(m, M_BODY), CA), PL));
                    return;
                }
            }
        }

        // ---- locals

        private void declare(int n, int type, int flags) {
            int name = tree.node(n, NM);
            if (findLocal(name) >= 0) {
                tree.report(40, tree.node(n, PL));
            }
            int l = tree.locals.add();
            tree.locals.put(l, L_NAME, name);
            tree.locals.put(l, L_TYPE, type);
            tree.locals.put(l, L_FLAGS, flags | ((tree.node(n, FL) & FINAL_DECL) != 0 ? L_FINAL : 0));
            tree.locals.put(l, L_BIT, bodyLocals);
            tree.locals.put(l, L_NODE, n);
            bodyLocals++;
            tree.set(n, SY, l);
            if (nameCount < names.length) {
                names[nameCount] = l;
                nameCount++;
            }
        }

        private int findLocal(int name) {
            for (int i = nameCount - 1; i >= 0; i--) {
                if (tree.locals.get(names[i], L_NAME) == name) {
                    return names[i];
                }
            }
            return -1;
        }

        private void push(int n) {
            if (jumpCount < jumps.length) {
                jumps[jumpCount] = n;
                jumpCount++;
            }
        }

        // ---- statements

        private void statement(int n) {
            switch (tree.node(n, KD)) {
                case S_BLOCK: {
                    int mark = nameCount;
                    for (int s = tree.node(n, CA); s != 0; s = tree.node(s, NX)) {
                        statement(s);
                    }
                    nameCount = mark;
                    break;
                }
                case S_LOCAL: localStatement(n); break;
                case S_EXP: typeOf(tree.node(n, CA)); break;
                case S_IF:
                    condition(tree.node(n, CA));
                    statement(tree.node(n, CB));
                    statement(tree.node(n, CC));
                    break;
                case S_WHILE:
                case S_DO:
                    if (tree.node(n, KD) == S_WHILE) {
                        condition(tree.node(n, CA));
                    }
                    push(n);
                    statement(tree.node(n, CB));
                    jumpCount--;
                    if (tree.node(n, KD) == S_DO) {
                        condition(tree.node(n, CA));
                    }
                    break;
                case S_FOR: forStatement(n); break;
                case S_EACH: eachStatement(n); break;
                case S_BREAK:
                case S_CONT: jumpStatement(n); break;
                case S_RETURN: returnStatement(n); break;
                case S_THROW: throwStatement(n); break;
                case S_TRY: tryStatement(n); break;
                case S_SWITCH: switchStatement(n); break;
                case S_LABEL: labelStatement(n); break;
                case S_THIS:
                case S_SUPER:
                    tree.report(49, tree.node(n, PL));
                    for (int a = tree.node(n, CB); a != 0; a = tree.node(a, NX)) {
                        value(a);
                    }
                    break;
                default: break;
            }
        }

        private void localStatement(int n) {
            for (int d = tree.node(n, CB); d != 0; d = tree.node(d, NX)) {
                int t = types.arrayOf(tree.node(tree.node(n, CA), TY), tree.node(d, CD));
                int init = tree.node(d, CA);
                declare(d, t, init != 0 ? L_GIVEN : 0);
                if (init != 0) {
                    initial(init, t);
                    int l = tree.node(d, SY);
                    boolean may = tree.locals.has(l, L_FLAGS, L_FINAL) && types.isPrim(t) && isConstant(init);
                    if (may && sameSort(tree.node(init, TY), t)) {
                        tree.locals.mark(l, L_FLAGS, L_CONST);
                        tree.locals.putWide(l, L_LO, shaped(tree.nodes.wide(init, LO), t));
                    }
                }
            }
        }

        private void forStatement(int n) {
            int mark = nameCount;
            int init = tree.node(n, CA);
            if (tree.node(init, KD) == S_LOCAL) {
                localStatement(init);
            } else {
                typeAll(init);
            }
            if (tree.node(n, CB) != 0) {
                condition(tree.node(n, CB));
            }
            typeAll(tree.node(n, CC));
            push(n);
            statement(tree.node(n, CD));
            jumpCount--;
            nameCount = mark;
        }

        private void typeAll(int list) {
            for (int e = list; e != 0; e = tree.node(e, NX)) {
                typeOf(e);
            }
        }

        private void eachStatement(int n) {
            int mark = nameCount;
            int row = tree.node(n, CC);
            int decl = tree.node(tree.node(n, CA), CB);
            int t = value(row);
            int kept = types.arrayOf(tree.node(tree.node(tree.node(n, CA), CA), TY), tree.node(decl, CD));
            if (t != 0) {
                int part = types.isArray(t) ? types.of(t) : 0;
                if (part == 0 || !types.goes(part, kept, true)) {
                    tree.report(41, tree.node(row, PL));
                }
                tree.set(n, TY, part);
                tree.set(n, TG, kept);
            }
            declare(decl, kept, L_GIVEN);
            push(n);
            statement(tree.node(n, CD));
            jumpCount--;
            nameCount = mark;
        }

        private static boolean isLoop(int kind) {
            return kind == S_WHILE || kind == S_DO || kind == S_FOR || kind == S_EACH;
        }

        private void jumpStatement(int n) {
            int name = tree.node(n, NM);
            boolean on = tree.node(n, KD) == S_CONT;
            tree.set(n, SY, 0);
            for (int i = jumpCount - 1; i >= 0; i--) {
                int kind = tree.node(jumps[i], KD);
                if (name == 0 && (isLoop(kind) || (kind == S_SWITCH && !on))) {
                    tree.set(n, SY, jumps[i]);
                    return;
                }
                if (name != 0 && kind == S_LABEL && tree.node(jumps[i], NM) == name) {
                    int inner = tree.node(jumps[i], CA);
                    if (on && !isLoop(tree.node(inner, KD))) {
                        break;
                    }
                    tree.set(n, SY, on ? inner : jumps[i]);
                    return;
                }
            }
            tree.report(51, tree.node(n, PL));
        }

        private void returnStatement(int n) {
            int e = tree.node(n, CA);
            if ((e == 0) != (wanted == VOID)) {
                tree.report(51, tree.node(n, PL));
                if (e != 0) {
                    typeOf(e);
                }
            } else if (e != 0) {
                assign(e, wanted);
            }
        }

        private void throwStatement(int n) {
            int e = tree.node(n, CA);
            int t = value(e);
            if (t != 0 && !types.subtype(t, types.kindType(THROWABLE))) {
                tree.report(41, tree.node(e, PL));
            }
        }

        private void tryStatement(int n) {
            statement(tree.node(n, CA));
            for (int c = tree.node(n, CB); c != 0; c = tree.node(c, NX)) {
                int mark = nameCount;
                int decl = tree.node(c, CB);
                declare(decl, tree.node(tree.node(c, CA), TY), L_GIVEN | L_CATCH);
                tree.locals.put(tree.node(decl, SY), L_NODE, c);
                statement(tree.node(c, CC));
                nameCount = mark;
            }
            statement(tree.node(n, CC));
        }

        private void switchStatement(int n) {
            int e = tree.node(n, CA);
            int t = value(e);
            int p = types.prim(t);
            if (t != 0 && (p < BYTE || p > INT)) {
                tree.report(50, tree.node(e, PL));
                t = 0;
            }
            if (t != 0) {
                tree.set(e, CV, types.isPrim(t) ? 0 : 5);
                tree.set(e, TG, p);
                t = types.isVar(t) ? types.box(p) : t;
            }
            int mark = nameCount;
            int defaults = 0;
            push(n);
            for (int s = tree.node(n, CB); s != 0; s = tree.node(s, NX)) {
                if (tree.node(s, KD) == S_CASE) {
                    caseLabel(n, s, t);
                } else if (tree.node(s, KD) == S_DEFAULT) {
                    defaults++;
                    if (defaults > 1) {
                        tree.report(50, tree.node(s, PL));
                    }
                } else {
                    statement(s);
                }
            }
            jumpCount--;
            nameCount = mark;
        }

        private void caseLabel(int n, int label, int type) {
            int e = tree.node(label, CA);
            int t = value(e);
            if (t == 0) {
                return;
            }
            int code = type == 0 ? 0 : assigned(e, type);
            boolean wrong = !isConstant(e) || code < 0;
            for (int s = tree.node(n, CB); s != label && s != 0 && !wrong; s = tree.node(s, NX)) {
                int o = tree.node(s, CA);
                if (tree.node(s, KD) == S_CASE && isConstant(o)) {
                    wrong = tree.nodes.wide(o, LO) == tree.nodes.wide(e, LO);
                }
            }
            if (wrong) {
                tree.report(50, tree.node(e, PL));
            } else {
                tree.set(e, CV, code);
                tree.set(e, TG, type);
            }
        }

        private void labelStatement(int n) {
            for (int i = 0; i < jumpCount; i++) {
                if (tree.node(jumps[i], KD) == S_LABEL && tree.node(jumps[i], NM) == tree.node(n, NM)) {
                    tree.report(40, tree.node(n, PL));
                }
            }
            push(n);
            statement(tree.node(n, CA));
            jumpCount--;
        }

        // ---- values and where they go

        /** The type of an expression that must have a value; 0 if it has none. */
        private int value(int n) {
            int t = typeOf(n);
            if (t == VOID) {
                tree.report(53, tree.node(n, PL));
                return 0;
            }
            return t;
        }

        private void convert(int n, int to) {
            tree.set(n, CV, types.conversion(tree.node(n, TY), to));
            tree.set(n, TG, to);
        }

        private void condition(int n) {
            int t = value(n);
            if (t == 0) {
                return;
            }
            if (types.prim(t) != BOOLEAN) {
                tree.report(41, tree.node(n, PL));
            } else {
                convert(n, BOOLEAN);
            }
        }

        private void index(int n) {
            int t = value(n);
            int p = types.prim(t);
            if (t == 0) {
                return;
            }
            if (p < BYTE || p > INT) {
                tree.report(41, tree.node(n, PL));
            } else {
                convert(n, INT);
            }
        }

        /** The conversion of an assignment [5.2] of a value whose type is known; -1 if there is none. */
        private int assigned(int n, int to) {
            int t = tree.node(n, TY);
            if (types.goes(t, to, true)) {
                return types.conversion(t, to);
            }
            boolean row = types.isKind(to) && types.of(to) > BOOLEAN_BOX && types.of(to) < LONG_BOX;
            int p = types.isPrim(to) ? to : row ? types.unbox(to) : 0;
            // no narrowing begins at byte [5.1.3]
            if (isConstant(n) && t > BYTE && t <= INT && types.fits(tree.nodes.wide(n, LO), p)) {
                return types.isPrim(to) ? 2 : 8;
            }
            return -1;
        }

        private void assign(int n, int to) {
            int t = value(n);
            if (t == 0 || to == 0) {
                return;
            }
            int code = assigned(n, to);
            if (code < 0) {
                tree.report(41, tree.node(n, PL));
            } else {
                tree.set(n, CV, code);
                tree.set(n, TG, to);
            }
        }

        private void initial(int n, int to) {
            if (tree.node(n, KD) == E_INIT) {
                row(n, to, false);
            } else {
                assign(n, to);
            }
        }

        /** { .. } for an array of that type; made is whether new stands ahead of it. */
        private void row(int n, int type, boolean made) {
            noteExp(n);
            if (!types.isArray(type)) {
                if (type != 0) {
                    tree.report(41, tree.node(n, PL));
                }
                return;
            }
            int part = types.of(type);
            if (!made && !types.reifiable(part)) {
                tree.report(49, tree.node(n, PL));
            }
            tree.set(n, TY, type);
            tree.set(n, TG, type);
            for (int e = tree.node(n, CB); e != 0; e = tree.node(e, NX)) {
                if (tree.node(e, KD) == E_INIT) {
                    row(e, part, made);
                } else {
                    assign(e, part);
                }
            }
        }

        // ---- expressions

        private void noteExp(int n) {
            tree.nodes.mark(n, FL, IS_EXP);
            tree.nodes.unmark(n, FL, CONST | ABRUPT);
            tree.set(n, CV, 0);
            noteAt(n);
        }

        /** Finds the type of an expression, 0 if it has none, and what it is for: itself, till that is told. */
        private int typeOf(int n) {
            noteExp(n);
            int t = 0;
            switch (tree.node(n, KD)) {
                case E_NAME: t = nameType(n); break;
                case E_LIT:
                    t = tree.node(n, TY);
                    if (t != NULL) {
                        tree.nodes.mark(n, FL, CONST);
                    }
                    break;
                case E_THIS:
                    if (fixed || inCall) {
                        tree.report(45, tree.node(n, PL));
                    }
                    t = tree.kinds.get(home, K_OWN);
                    break;
                case E_FIELD: t = fieldType(n); break;
                case E_SUPER: t = superField(n); break;
                case E_CALL: t = callType(n); break;
                case E_NEW: t = newType(n); break;
                case E_ARRAY: t = arrayType(n); break;
                case E_ARRAYINIT: t = filledType(n); break;
                case E_ELEM: t = elementType(n); break;
                case E_PRE: t = prefixType(n); break;
                case E_PREINC:
                case E_POSTINC: t = countType(n); break;
                case E_CAST: t = castType(n); break;
                case E_BIN: t = binaryType(n); break;
                case E_IS: t = isType(n); break;
                case E_COND: t = conditionalType(n); break;
                case E_ASSIGN: t = assignType(n); break;
                default: break;
            }
            tree.set(n, TY, t);
            tree.set(n, TG, t);
            return t;
        }

        private void setConstant(int n, long value) {
            tree.nodes.mark(n, FL, CONST);
            tree.nodes.putWide(n, LO, value);
        }

        private void fieldConstant(int n, int f) {
            if (tree.fields.get(f, F_CONST) == 1) {
                setConstant(n, tree.fields.wide(f, F_LO));
            }
        }

        /** A field's type as a type that has it sees it. */
        private int fieldSeen(int f, int type) {
            int view = types.asSuper(type, tree.fields.get(f, F_KIND));
            types.bindNone();
            types.bindKind(view);
            return types.put(tree.fields.get(f, F_TYPE));
        }

        private int nameType(int n) {
            int name = tree.node(n, NM);
            int l = findLocal(name);
            tree.set(n, OP, 0);
            if (l >= 0) {
                tree.set(n, OP, IS_LOCAL);
                tree.set(n, SY, l);
                if (tree.locals.has(l, L_FLAGS, L_CONST)) {
                    setConstant(n, tree.locals.wide(l, L_LO));
                }
                return tree.locals.get(l, L_TYPE);
            }
            int f = tree.fieldOf(home, name);
            if (f < 0) {
                tree.report(40, tree.node(n, PL));
                return 0;
            }
            tree.set(n, OP, IS_FIELD);
            tree.set(n, SY, f);
            boolean still = tree.fields.has(f, F_FLAGS, STATIC);
            if (!still && (fixed || inCall)) {
                tree.report(45, tree.node(n, PL));
            }
            boolean own = tree.fields.get(f, F_KIND) == home && still == fixed;
            if (fieldNow >= 0 && own && f >= fieldNow && n != aside) {
                tree.report(40, tree.node(n, PL));
                return 0;
            }
            fieldConstant(n, f);
            return fieldSeen(f, tree.kinds.get(home, K_OWN));
        }

        /** What a name ahead of a point means if it is no variable: IS_KIND, IS_VAR, or 0 with its fault told. */
        private int qualifier(int r) {
            int name = tree.node(r, NM);
            int v = heads.varNamed(scope, name);
            int k = v == -1 ? tree.kindNamed(name) : -1;
            tree.set(r, OP, v >= 0 ? IS_VAR : k >= 0 ? IS_KIND : 0);
            tree.set(r, SY, k);
            if (v < 0 && k < 0) {
                tree.report(40, tree.node(r, PL));
            }
            return tree.node(r, OP);
        }

        private boolean isVariableName(int r) {
            boolean plain = tree.node(r, KD) == E_NAME && (tree.node(r, FL) & PAREN) == 0;
            return !plain || findLocal(tree.node(r, NM)) >= 0 || tree.fieldOf(home, tree.node(r, NM)) >= 0;
        }

        private int fieldType(int n) {
            int r = tree.node(n, CA);
            tree.set(n, OP, 0);
            if (!isVariableName(r)) {
                return fieldByKind(n, r);
            }
            int t = value(r);
            if (t == 0) {
                return 0;
            }
            int name = tree.node(n, NM);
            if (types.isArray(t) && name == NAME_LENGTH) {
                tree.set(n, OP, IS_LENGTH);
                return INT;
            }
            int b = types.boundOf(t);
            int f = types.isKind(b) ? tree.fieldOf(types.of(b), name) : -1;
            if (f >= 0 && types.isVar(t) && tree.fields.has(f, F_FLAGS, PRIVATE)) {
                f = -1;
            }
            if (f < 0) {
                tree.report(40, tree.node(n, PL));
                return 0;
            }
            foundField(n, f);
            return fieldSeen(f, b);
        }

        private void foundField(int n, int f) {
            tree.set(n, OP, IS_FIELD);
            tree.set(n, SY, f);
            if (tree.fields.has(f, F_FLAGS, PRIVATE) && tree.fields.get(f, F_KIND) != home) {
                tree.report(46, tree.node(n, PL));
            }
        }

        private int fieldByKind(int n, int r) {
            int what = qualifier(r);
            int k = tree.node(r, SY);
            int f = what == IS_KIND ? tree.fieldOf(k, tree.node(n, NM)) : -1;
            if (f < 0) {
                if (what != 0) {
                    tree.report(40, tree.node(n, PL));
                }
                return 0;
            }
            foundField(n, f);
            if (!tree.fields.has(f, F_FLAGS, STATIC)) {
                tree.report(45, tree.node(n, PL));
            } else {
                fieldConstant(n, f);
            }
            return fieldSeen(f, tree.kinds.get(k, K_OWN));
        }

        private int superField(int n) {
            if (fixed || inCall) {
                tree.report(45, tree.node(n, XT) - 1);
            }
            tree.set(n, OP, 0);
            int parent = tree.kinds.get(home, K_PTYPE);
            int f = tree.fieldOf(types.of(parent), tree.node(n, NM));
            if (f < 0) {
                tree.report(40, tree.node(n, PL));
                return 0;
            }
            foundField(n, f);
            return fieldSeen(f, parent);
        }

        /** The type in which a call's method is looked for, 0 if there is none. */
        private int callOn(int n) {
            int r = tree.node(n, CA);
            int superPlace = tree.node(n, XT);
            if (superPlace != 0) {
                if (fixed || inCall) {
                    tree.report(45, superPlace - 1);
                }
                return tree.kinds.get(home, K_PTYPE);
            }
            if (r == 0) {
                return tree.kinds.get(home, K_OWN);
            }
            if (isVariableName(r)) {
                return value(r);
            }
            int what = qualifier(r);
            if (what == IS_VAR) {
                tree.report(40, tree.node(n, PL));
            }
            return what == IS_KIND ? tree.kinds.get(tree.node(r, SY), K_OWN) : 0;
        }

        private int callType(int n) {
            int type = callOn(n);
            for (int a = tree.node(n, CB); a != 0; a = tree.node(a, NX)) {
                value(a);
            }
            tree.set(n, FI, type);
            tree.set(n, SY, NONE);
            if (type == 0) {
                return 0;
            }
            chooser.begin(tree.node(n, CB), tree.node(n, CC));
            chooser.gather(type, tree.node(n, NM), home);
            if (chooser.wantsTypes()) {
                tree.report(47, tree.node(n, PL));
                return 0;
            }
            if (chooser.incomplete() || !pick(n)) {
                return 0;
            }
            int m = tree.node(n, SY);
            judgeCalled(n, m);
            return heads.seen(m, tree.methods.get(m, M_TYPE), tree.node(n, CD), tree.node(n, HI));
        }

        /** What is wrong with a method that was chosen; OP tells how it is called. */
        private void judgeCalled(int n, int m) {
            int r = tree.node(n, CA);
            boolean byKind = r != 0 && !isVariableName(r);
            boolean bySuper = tree.node(n, XT) != 0;
            int flags = tree.methods.get(m, M_FLAGS);
            boolean still = (flags & STATIC) != 0;
            if (!still && (byKind || (r == 0 && !bySuper && (fixed || inCall)))) {
                tree.report(45, tree.node(n, PL));
            }
            if (bySuper && (flags & ABSTRACT) != 0) {
                tree.report(49, tree.node(n, PL));
            }
            tree.set(n, OP, still ? 0 : bySuper || (flags & PRIVATE) != 0 ? 1 : 2);
        }

        private int newType(int n) {
            int node = tree.node(n, CA);
            int t = tree.node(node, TY);
            for (int a = tree.node(n, CB); a != 0; a = tree.node(a, NX)) {
                value(a);
            }
            tree.set(n, SY, NONE);
            if (!types.isKind(t) || tree.kinds.has(types.of(t), K_FLAGS, ABSTRACT)) {
                tree.report(49, tree.node(node, PL));
                return 0;
            }
            chooser.begin(tree.node(n, CB), 0);
            chooser.gatherConstructors(t, home);
            if (!chooser.incomplete()) {
                pick(n);
            }
            return t;
        }

        private int arrayType(int n) {
            int node = tree.node(n, CA);
            for (int e = tree.node(n, CB); e != 0; e = tree.node(e, NX)) {
                index(e);
            }
            int t = tree.node(node, TY);
            if (!types.reifiable(t)) {
                tree.report(49, tree.node(node, PL));
                return 0;
            }
            return types.arrayOf(t, tree.node(n, CD));
        }

        private int filledType(int n) {
            int node = tree.node(n, CA);
            int t = tree.node(node, TY);
            row(tree.node(n, CB), t, true);
            if (!types.reifiable(t)) {
                tree.report(49, tree.node(node, PL));
                return 0;
            }
            return t;
        }

        private int elementType(int n) {
            int t = value(tree.node(n, CA));
            index(tree.node(n, CB));
            if (t == 0) {
                return 0;
            }
            if (!types.isArray(t)) {
                tree.report(42, tree.node(n, PL));
                return 0;
            }
            return types.of(t);
        }

        private int wrongOperand(int n) {
            tree.report(42, tree.node(n, PL));
            return 0;
        }

        private int prefixType(int n) {
            int e = tree.node(n, CA);
            int t = value(e);
            int op = tree.node(n, OP);
            if (t == 0) {
                return 0;
            }
            int p = types.prim(t);
            if (op == T_NOT ? p != BOOLEAN : !types.isNumber(p)) {
                return wrongOperand(n);
            }
            int made = op == T_NOT ? BOOLEAN : types.promoted(p);
            convert(e, made);
            tree.set(n, XT, made);
            if (isConstant(e)) {
                long v = tree.nodes.wide(e, LO);
                long w = op == T_NOT ? 1 - v : op == T_MINUS ? -v : op == T_TILDE ? ~v : v;
                setConstant(n, shaped(w, made));
            } else if (isPart(e)) {
                tree.nodes.mark(n, FL, ABRUPT);
            }
            return made;
        }

        private int countType(int n) {
            int e = tree.node(n, CA);
            int t = value(e);
            judgeTarget(e, tree.node(n, PL));
            if (t == 0) {
                return 0;
            }
            int p = types.prim(t);
            if (!types.isNumber(p)) {
                return wrongOperand(n);
            }
            tree.set(n, XT, p);
            return t;
        }

        private int castType(int n) {
            int e = tree.node(n, CA);
            int to = tree.node(tree.node(n, CB), TY);
            int t = value(e);
            if (t != 0) {
                int code = types.cast(t, to);
                if (code < 0) {
                    tree.report(52, tree.node(n, PL));
                } else {
                    tree.set(e, CV, code);
                    tree.set(e, TG, to);
                    if (isConstant(e) && types.isPrim(to)) {
                        setConstant(n, shaped(tree.nodes.wide(e, LO), to));
                    } else if (isPart(e) && types.isPrim(to)) {
                        tree.nodes.mark(n, FL, ABRUPT);
                    }
                }
            }
            return to;
        }

        private int isType(int n) {
            int t = value(tree.node(n, CA));
            int to = tree.node(tree.node(n, CB), TY);
            if (t != 0) {
                boolean things = types.isRef(t) && types.isRef(to) && types.reifiable(to);
                if (!things || types.cast(t, to) < 0) {
                    tree.report(52, tree.node(n, PL));
                }
            }
            return BOOLEAN;
        }

        private int binaryType(int n) {
            int a = value(tree.node(n, CA));
            int b = value(tree.node(n, CB));
            int op = tree.node(n, OP);
            boolean asks = op == T_OROR || op == T_ANDAND || (op >= T_EQ && op <= T_GT);
            if (a == 0 || b == 0) {
                return asks ? BOOLEAN : 0;
            }
            int p = operation(n, op, a, b);
            if (p < 0) {
                return asks ? BOOLEAN : 0;
            }
            tree.set(n, XT, p);
            if (p != 0) {
                int left = tree.node(n, CA);
                int right = tree.node(n, CB);
                boolean shift = op >= T_SHL && op <= T_USHR;
                convert(left, p);
                convert(right, shift ? types.promoted(types.prim(b)) : p);
                if (isPart(left) && isPart(right)) {
                    fold(n, op, p);
                }
            }
            return asks ? BOOLEAN : p;
        }

        /** The type in which an operator works: 0 of things, -1 if it can't (its fault is told). */
        private int operation(int n, int op, int a, int b) {
            int pa = types.prim(a);
            int pb = types.prim(b);
            boolean numbers = types.isNumber(pa) && types.isNumber(pb);
            boolean booleans = pa == BOOLEAN && pb == BOOLEAN;
            if (op == T_EQ || op == T_NE) {
                if ((types.isPrim(a) || types.isPrim(b)) && (numbers || booleans)) {
                    return numbers ? types.promoted(pa, pb) : BOOLEAN;
                }
                if (!types.isRef(a) || !types.isRef(b)) {
                    tree.report(42, tree.node(n, PL));
                    return -1;
                }
                if (types.cast(a, b) < 0 && types.cast(b, a) < 0) {
                    tree.report(52, tree.node(n, PL));
                    return -1;
                }
                return 0;
            }
            if (op == T_OROR || op == T_ANDAND) {
                numbers = false;
            } else if (op != T_AND && op != T_OR && op != T_XOR) {
                booleans = false;
            }
            if (booleans) {
                return BOOLEAN;
            }
            if (numbers) {
                return op >= T_SHL && op <= T_USHR ? types.promoted(pa) : types.promoted(pa, pb);
            }
            tree.report(42, tree.node(n, PL));
            return -1;
        }

        private void fold(int n, int op, int p) {
            int left = tree.node(n, CA);
            int right = tree.node(n, CB);
            long a = tree.nodes.wide(left, LO);
            long b = tree.nodes.wide(right, LO);
            boolean decided = isConstant(left) && (op == T_OROR ? a != 0 : op == T_ANDAND && a == 0);
            if (decided) {
                setConstant(n, a);
            } else if (!isConstant(left) || !isConstant(right) || ((op == T_SLASH || op == T_PERCENT) && b == 0)) {
                tree.nodes.mark(n, FL, ABRUPT);
            } else if (op >= T_EQ && op <= T_GT) {
                setConstant(n, compared(op, a, b) ? 1 : 0);
            } else {
                setConstant(n, worked(op, p == LONG, a, b));
            }
        }

        static boolean compared(int op, long a, long b) {
            switch (op) {
                case T_EQ: return a == b;
                case T_NE: return a != b;
                case T_LT: return a < b;
                case T_LE: return a <= b;
                case T_GE: return a >= b;
                default: return a > b;
            }
        }

        /** What an operator makes of two numbers; a divisor that is 0 was seen ahead. */
        static long worked(int op, boolean wide, long a, long b) {
            long made = 0;
            switch (op) {
                case T_OROR:
                case T_OR: made = a | b; break;
                case T_ANDAND:
                case T_AND: made = a & b; break;
                case T_XOR: made = a ^ b; break;
                case T_PLUS: made = a + b; break;
                case T_MINUS: made = a - b; break;
                case T_STAR: made = a * b; break;
                case T_SLASH: made = b == 0 ? 0 : a / b; break;
                case T_PERCENT: made = b == 0 ? 0 : a % b; break;
                case T_SHL: made = wide ? a << b : (int) a << (int) b; break;
                case T_SHR: made = wide ? a >> b : (int) a >> (int) b; break;
                case T_USHR: made = wide ? a >>> b : (int) a >>> (int) b; break;
                default: break;
            }
            return wide ? made : (int) made;
        }

        private int conditionalType(int n) {
            int yes = tree.node(n, CB);
            int no = tree.node(n, CC);
            condition(tree.node(n, CA));
            int a = value(yes);
            int b = value(no);
            if (a == 0 || b == 0) {
                return 0;
            }
            int t = joined(yes, no, a, b);
            if (t == 0) {
                tree.report(54, tree.node(n, PL));
                return 0;
            }
            convert(yes, t);
            convert(no, t);
            int c = tree.node(n, CA);
            if (types.isPrim(t) && isPart(c) && isPart(yes) && isPart(no)) {
                int chosen = tree.nodes.wide(c, LO) != 0 ? yes : no;
                if (isConstant(c) && isConstant(chosen)) {
                    setConstant(n, shaped(tree.nodes.wide(chosen, LO), t));
                } else {
                    tree.nodes.mark(n, FL, ABRUPT);
                }
            }
            return t;
        }

        /** The primitive type as which an operand of a conditional counts [15.25]; 0 if it is no number, no boolean. */
        private int countsAs(int n, int t) {
            int m = tree.node(n, SY);
            if (tree.node(n, KD) != E_CALL || tree.methods.get(m, M_VARS) == 0) {
                return types.prim(t);
            }
            // the method's own vars aren't put in there, what its kind's vars stand for is
            int made = tree.methods.get(m, M_TYPE);
            for (int i = 0; i < 5 && heads.isOwnVar(m, made); i++) {
                made = types.bound(made);
            }
            return types.prim(heads.seen(m, made, tree.node(n, CD), NONE));
        }

        /** The type of a conditional with these operands [15.25], 0 if it isn't found. */
        private int joined(int yes, int no, int a, int b) {
            int pa = countsAs(yes, a);
            int pb = countsAs(no, b);
            if (a == b) {
                return a;
            }
            if (pa == BOOLEAN && pb == BOOLEAN) {
                return BOOLEAN;
            }
            if (types.isNumber(pa) && types.isNumber(pb)) {
                if (pa == pb) {
                    return pa;
                }
                if ((pa == BYTE && pb == SHORT) || (pa == SHORT && pb == BYTE)) {
                    return SHORT;
                }
                if (b == INT && isConstant(no) && types.fits(tree.nodes.wide(no, LO), pa)) {
                    return pa;
                }
                if (a == INT && isConstant(yes) && types.fits(tree.nodes.wide(yes, LO), pb)) {
                    return pb;
                }
                return types.promoted(pa, pb);
            }
            int x = types.isPrim(a) ? types.box(a) : a;
            int y = types.isPrim(b) ? types.box(b) : b;
            return types.subtype(x, y) ? y : types.subtype(y, x) ? x : 0;
        }

        private int assignType(int n) {
            int left = tree.node(n, CA);
            int right = tree.node(n, CB);
            int op = tree.node(n, OP);
            int kept = aside;
            aside = left;
            int t = value(left);
            aside = kept;
            judgeTarget(left, tree.node(n, PL));
            if (op == T_ASSIGN) {
                assign(right, t);
                return t;
            }
            int b = value(right);
            if (t == 0 || b == 0) {
                return t;
            }
            int sign = op > T_ASSIGN && op - T_STARA < BEHIND_ASSIGN.length ? BEHIND_ASSIGN[op - T_STARA] : T_PLUS;
            int p = operation(n, sign, t, b);
            if (p < 0) {
                return t;
            }
            boolean shift = sign >= T_SHL && sign <= T_USHR;
            convert(right, shift ? types.promoted(types.prim(b)) : p);
            tree.set(n, XT, p);
            if (!types.isPrim(t) && types.unbox(t) != p) {
                tree.report(42, tree.node(n, PL));
            }
            return t;
        }

        // ---- what may be assigned

        private void judgeTarget(int e, int place) {
            int what = tree.node(e, OP);
            int sym = tree.node(e, SY);
            boolean wrong = false;
            switch (tree.node(e, KD)) {
                case E_NAME:
                    if (what == IS_LOCAL) {
                        tree.locals.mark(sym, L_FLAGS, L_SET);
                        int flags = tree.locals.get(sym, L_FLAGS);
                        wrong = (flags & L_FINAL) != 0 && (flags & L_GIVEN) != 0;
                    } else if (what == IS_FIELD) {
                        wrong = lockedField(sym, true);
                    }
                    break;
                case E_FIELD:
                    wrong = what == IS_LENGTH
                        || (what == IS_FIELD && lockedField(sym, tree.node(tree.node(e, CA), KD) == E_THIS));
                    break;
                case E_SUPER:
                    wrong = what == IS_FIELD && lockedField(sym, false);
                    break;
                case E_ELEM: break;
                default: wrong = true;
            }
            if (wrong) {
                tree.report(48, place);
            }
        }

        /** Whether a field may not be assigned here. */
        private boolean lockedField(int f, boolean direct) {
            if (!tree.fields.has(f, F_FLAGS, FINAL)) {
                return false;
            }
            if (tree.fields.get(f, F_INIT) != 0 || !direct || tree.fields.get(f, F_KIND) != home) {
                return true;
            }
            boolean still = tree.fields.has(f, F_FLAGS, STATIC);
            if (fieldNow >= 0) {
                return tree.fields.has(fieldNow, F_FLAGS, STATIC) != still;
            }
            return still || !tree.methods.has(spell, M_FLAGS, CTOR);
        }
    }

    /**
     * Judges what can be reached and thrown (faults 60, 63, 64), then what is definitely assigned and
     * unassigned [16] (61, 62): there a bit is a local (0 .. 39) or a final field.
     */
    private static final class Flow {
        private static final long ALL = -1L;
        private static final long FIELD_BITS = ALL << 40;
        private static final int IN_METHOD = 0;
        private static final int IN_OBJECT = 1;
        private static final int IN_START = 2;
        private static final int THROWN_BITS = ALL_KINDS + 8;

        private final Tree tree;
        private final Types types;
        private final Heads heads;
        private final int[] tries = new int[64];
        private int tryCount;
        private int home;
        private int spell;
        private boolean fixed;
        private long da;
        private long du;
        private long daTrue;
        private long duTrue;
        private long daFalse;
        private long duFalse;
        private int mode;
        private final int[] targets = new int[64];
        private final int[] heights = new int[64];
        private final long[] sums = new long[64 * 4];
        private int targetCount;
        private final long[] ends = new long[64 * 2];
        private long endDa;

        Flow(Tree tree, Types types, Heads heads) {
            this.tree = tree;
            this.types = types;
            this.heads = heads;
        }

        void judgeFlow() {
            for (int m = BUILT_METHODS; m < tree.methods.size(); m++) {
                enter(tree.methods.get(m, M_KIND), m, false);
                int body = tree.methods.get(m, M_BODY);
                if (body != 0 && reach(body) && tree.methods.get(m, M_TYPE) != VOID) {
                    tree.report(60, tree.node(body, XT));
                }
                tryCount = 0;
                if (tree.methods.has(m, M_FLAGS, CTOR) && tree.methods.get(m, M_VIEW) != 0) {
                    callThrows(tree.methods.get(m, M_CALLS), tree.methods.get(m, M_VIEW), NONE, tree.methods.get(m, M_PLACE));
                }
                walk(body);
            }
            for (int f = 0; f < tree.fields.size(); f++) {
                enter(tree.fields.get(f, F_KIND), -1, tree.fields.has(f, F_FLAGS, STATIC));
                walkExp(tree.fields.get(f, F_INIT));
            }
        }

        private void enter(int k, int m, boolean still) {
            home = k;
            spell = m;
            fixed = still;
            tryCount = 0;
        }

        private void pushTry(int n) {
            if (tryCount < tries.length) {
                tries[tryCount] = n;
                tryCount++;
            }
        }

        private int tryAt(int i) {
            return i >= 0 && i < tryCount ? tries[i] : 0;
        }

        // ---- what can be reached [14.22]

        private boolean always(int n) {
            return n == 0 || ((tree.node(n, FL) & CONST) != 0 && tree.node(n, LO) != 0);
        }

        private boolean never(int n) {
            return n != 0 && (tree.node(n, FL) & CONST) != 0 && tree.node(n, LO) == 0;
        }

        private boolean has(int n, int flag) {
            return (tree.node(n, FL) & flag) != 0;
        }

        /** Whether the statement, that can be reached, can be left at its end. */
        private boolean reach(int n) {
            tree.set(n, HI, tryCount);
            switch (tree.node(n, KD)) {
                case S_BLOCK: return reachList(tree.node(n, CA), true);
                case S_IF: {
                    boolean yes = reach(tree.node(n, CB));
                    int other = tree.node(n, CC);
                    return other == 0 || reach(other) || yes;
                }
                case S_WHILE: return reachLoop(n, tree.node(n, CA), tree.node(n, CB));
                case S_FOR: return reachLoop(n, tree.node(n, CB), tree.node(n, CD));
                case S_EACH:
                    reach(tree.node(n, CD));
                    return true;
                case S_DO: {
                    boolean end = reach(tree.node(n, CB)) || has(n, CONTINUED);
                    return (end && !always(tree.node(n, CA))) || has(n, BROKEN);
                }
                case S_LABEL: {
                    boolean end = reach(tree.node(n, CA));
                    return end || has(n, BROKEN);
                }
                case S_SWITCH: return reachSwitch(n);
                case S_TRY: return reachTry(n);
                case S_BREAK:
                case S_CONT:
                    reachJump(n);
                    return false;
                case S_RETURN:
                case S_THROW: return false;
                default: return true;
            }
        }

        private boolean reachList(int first, boolean from) {
            boolean alive = from;
            for (int s = first; s != 0; s = tree.node(s, NX)) {
                int kind = tree.node(s, KD);
                if (kind == S_CASE || kind == S_DEFAULT) {
                    alive = true;
                } else if (alive) {
                    alive = reach(s);
                } else {
                    tree.report(60, tree.node(s, FI));
                }
            }
            return alive;
        }

        /** What can't be reached isn't looked into: no jump in it counts, and it has no end. */
        private boolean reachLoop(int n, int condition, int body) {
            if (never(condition)) {
                tree.report(60, tree.node(body, FI));
            } else {
                reach(body);
            }
            return !always(condition) || has(n, BROKEN);
        }

        private boolean reachSwitch(int n) {
            boolean whole = false;
            for (int s = tree.node(n, CB); s != 0; s = tree.node(s, NX)) {
                whole = whole || tree.node(s, KD) == S_DEFAULT;
            }
            boolean end = reachList(tree.node(n, CB), true);
            return end || !whole || has(n, BROKEN);
        }

        private boolean reachTry(int n) {
            int last = tree.node(n, CC);
            boolean fine = last == 0 || reach(last);
            if (!fine) {
                tree.nodes.mark(n, FL, STUCK);
            }
            pushTry(n);
            boolean end = reach(tree.node(n, CA));
            for (int c = tree.node(n, CB); c != 0; c = tree.node(c, NX)) {
                boolean more = reach(tree.node(c, CC));
                end = end || more;
            }
            tryCount--;
            return end && fine;
        }

        private void reachJump(int n) {
            int goal = tree.node(n, SY);
            for (int i = tryCount - 1; i >= tree.node(goal, HI); i--) {
                if (has(tryAt(i), STUCK)) {
                    return;
                }
            }
            tree.nodes.mark(goal, FL, tree.node(n, KD) == S_BREAK ? BROKEN : CONTINUED);
        }

        // ---- what can be thrown [11.2]

        private void walk(int n) {
            switch (tree.node(n, KD)) {
                case S_BLOCK: walkList(tree.node(n, CA)); break;
                case S_LOCAL:
                    for (int d = tree.node(n, CB); d != 0; d = tree.node(d, NX)) {
                        walkExp(tree.node(d, CA));
                    }
                    break;
                case S_IF:
                    walkExp(tree.node(n, CA));
                    walk(tree.node(n, CB));
                    walk(tree.node(n, CC));
                    break;
                case S_WHILE:
                case S_DO:
                    walkExp(tree.node(n, CA));
                    walk(tree.node(n, CB));
                    break;
                case S_FOR:
                case S_EACH: walkFor(n); break;
                case S_SWITCH:
                    walkExp(tree.node(n, CA));
                    walkList(tree.node(n, CB));
                    break;
                case S_TRY: walkTry(n); break;
                case S_LABEL: walk(tree.node(n, CA)); break;
                case S_EXP:
                case S_RETURN: walkExp(tree.node(n, CA)); break;
                case S_THROW: walkThrow(n); break;
                case S_THIS:
                case S_SUPER:
                    walkExps(tree.node(n, CB));
                    callThrows(tree.node(n, SY), tree.node(n, CD), tree.node(n, HI), tree.node(n, PL));
                    break;
                default: break;
            }
        }

        private void walkList(int first) {
            for (int s = first; s != 0; s = tree.node(s, NX)) {
                walk(s);
            }
        }

        private void walkFor(int n) {
            int init = tree.node(n, CA);
            if (tree.node(init, KD) == S_LOCAL) {
                walk(init);
            } else {
                walkExps(init);
            }
            walkExps(tree.node(n, CB));
            walkExps(tree.node(n, CC));
            walk(tree.node(n, CD));
        }

        private void walkTry(int n) {
            pushTry(n);
            walk(tree.node(n, CA));
            tryCount--;
            for (int c = tree.node(n, CB); c != 0; c = tree.node(c, NX)) {
                judgeCatch(n, c);
            }
            pushTry(-n);
            for (int c = tree.node(n, CB); c != 0; c = tree.node(c, NX)) {
                walk(tree.node(c, CC));
            }
            tryCount--;
            walk(tree.node(n, CC));
        }

        private int caught(int c) {
            return tree.node(tree.node(c, CA), TY);
        }

        private boolean takenAhead(int n, int c, int t) {
            for (int o = tree.node(n, CB); o != c && o != 0; o = tree.node(o, NX)) {
                if (types.subtype(t, caught(o))) {
                    return true;
                }
            }
            return false;
        }

        private void judgeCatch(int n, int c) {
            int t = caught(c);
            int k = types.of(t);
            boolean idle = heads.isChecked(t) && k != EXCEPTION && k != THROWABLE && !has(c, MARKED);
            if (idle || takenAhead(n, c, t)) {
                tree.report(64, tree.node(tree.node(c, CA), PL));
            }
        }

        private void walkThrow(int n) {
            int e = tree.node(n, CA);
            walkExp(e);
            int l = tree.node(e, SY);
            boolean again = tree.node(e, KD) == E_NAME && tree.node(e, OP) == IS_LOCAL
                && tree.locals.has(l, L_FLAGS, L_CATCH) && !tree.locals.has(l, L_FLAGS, L_SET);
            if (again) {
                throwAgain(tree.locals.get(l, L_NODE), tree.node(n, PL));
            } else {
                throwOne(tree.node(e, TY), tree.node(n, PL));
            }
        }

        /** A catch's own variable: what its block can throw and it takes [11.2.2]. */
        private void throwAgain(int c, int place) {
            int n = tree.node(c, CD);
            int t = caught(c);
            long all = tree.nodes.wide(n, SY);
            for (int bit = 0; bit < THROWN_BITS; bit++) {
                int e = (all >> bit & 1) == 1 ? thrownType(bit) : 0;
                if (e != 0 && !takenAhead(n, c, e)) {
                    if (types.subtype(e, t)) {
                        throwOne(e, place);
                    } else if (types.subtype(t, e)) {
                        throwOne(t, place);
                    }
                }
            }
        }

        private void callThrows(int m, int view, int list, int place) {
            for (int n = tree.methods.get(m, M_THROWS); n != 0; n = tree.node(n, NX)) {
                throwOne(heads.seen(m, tree.node(n, TY), view, list), place);
            }
        }

        private void throwOne(int t, int place) {
            if (!heads.isChecked(t)) {
                return;
            }
            for (int i = tryCount - 1; i >= 0; i--) {
                int n = Math.abs(tryAt(i));
                if (tryAt(i) > 0 && takes(n, t)) {
                    return;
                }
                if (has(n, STUCK)) {
                    return;
                }
            }
            if (!told(t)) {
                tree.report(63, place);
            }
        }

        /** Notes what comes to a try out of its block; true if a catch takes all of it. */
        private boolean takes(int n, int t) {
            note(n, t);
            boolean all = false;
            for (int c = tree.node(n, CB); c != 0; c = tree.node(c, NX)) {
                boolean below = types.subtype(t, caught(c));
                if (below || types.subtype(caught(c), t)) {
                    tree.nodes.mark(c, FL, MARKED);
                }
                all = all || below;
            }
            return all;
        }

        /** What a block can throw stands as bits in SY and TG of its try. */
        private void note(int n, int t) {
            int bit = thrownBit(t);
            if (bit >= 0) {
                tree.nodes.putWide(n, SY, tree.nodes.wide(n, SY) | 1L << bit);
            }
        }

        /** What is thrown is a kind, or a var of the kind or the method whose body it is. */
        private int thrownBit(int t) {
            int i = types.of(t);
            if (types.isKind(t)) {
                return i;
            }
            int first = tree.kinds.get(home, K_VAR0);
            if (i >= first && i < first + tree.kinds.get(home, K_VARS)) {
                return ALL_KINDS + i - first;
            }
            first = tree.methods.get(spell, M_VAR0);
            return i >= first && i < first + tree.methods.get(spell, M_VARS) ? ALL_KINDS + 4 + i - first : -1;
        }

        private int thrownType(int bit) {
            if (bit < ALL_KINDS) {
                return types.kindType(bit);
            }
            int i = bit - ALL_KINDS;
            return types.varType(i < 4 ? tree.kinds.get(home, K_VAR0) + i : tree.methods.get(spell, M_VAR0) + i - 4);
        }

        private boolean tells(int m, int t) {
            for (int n = tree.methods.get(m, M_THROWS); n != 0; n = tree.node(n, NX)) {
                if (types.subtype(t, tree.node(n, TY))) {
                    return true;
                }
            }
            return false;
        }

        private boolean told(int t) {
            if (spell >= 0) {
                return tells(spell, t);
            }
            boolean some = false;
            for (int m = tree.kinds.get(home, K_M0); m < tree.kinds.get(home, K_M1); m++) {
                if (tree.methods.has(m, M_FLAGS, CTOR)) {
                    some = true;
                    if (!tells(m, t)) {
                        return false;
                    }
                }
            }
            return some && !fixed;
        }

        private void walkExps(int first) {
            for (int e = first; e != 0; e = tree.node(e, NX)) {
                walkExp(e);
            }
        }

        private void walkExp(int n) {
            int kind = tree.node(n, KD);
            if (n == 0) {
                return;
            }
            if (partA(kind)) {
                walkExp(tree.node(n, CA));
            }
            if (partB(kind)) {
                walkExps(tree.node(n, CB));
            }
            if (kind == E_COND) {
                walkExp(tree.node(n, CC));
            }
            if (kind == E_CALL && tree.methods.has(tree.node(n, SY), M_FLAGS, ABSTRACT)) {
                openThrows(n);
            } else if (kind == E_CALL || kind == E_NEW) {
                callThrows(tree.node(n, SY), tree.node(n, CD), tree.node(n, HI), tree.node(n, PL));
            }
        }

        /** Of several abstract methods with the chosen one's signature: what each of them tells [15.12.2.5]. */
        private void openThrows(int n) {
            int k = types.of(types.boundOf(tree.node(n, FI)));
            for (int i = tree.kinds.get(k, K_MEM0); i < tree.kinds.get(k, K_MEM1); i++) {
                int o = heads.member(i);
                if (isBrother(n, o)) {
                    int view = types.asSuper(tree.node(n, FI), tree.methods.get(o, M_KIND));
                    for (int e = tree.methods.get(o, M_THROWS); e != 0; e = tree.node(e, NX)) {
                        int t = heads.seen(o, tree.node(e, TY), view, tree.node(n, HI));
                        if (eachTells(n, k, t)) {
                            throwOne(t, tree.node(n, PL));
                        }
                    }
                }
            }
        }

        /** Whether a method that the type ahead of a call has is the chosen one, or was found with its signature. */
        private boolean isBrother(int n, int o) {
            int m = tree.node(n, SY);
            if (o == m || tree.methods.get(o, M_NAME) != tree.methods.get(m, M_NAME)
                || tree.methods.get(o, M_COUNT) != tree.methods.get(m, M_COUNT)) {
                return o == m;
            }
            if (tree.node(n, LO) == 3 && !tree.methods.has(o, M_FLAGS, VARARGS)) {
                return false;
            }
            int view = types.asSuper(tree.node(n, FI), tree.methods.get(o, M_KIND));
            return heads.sameSeen(m, tree.node(n, CD), o, view);
        }

        private boolean eachTells(int n, int k, int t) {
            for (int i = tree.kinds.get(k, K_MEM0); i < tree.kinds.get(k, K_MEM1); i++) {
                int o = heads.member(i);
                if (isBrother(n, o)) {
                    int view = types.asSuper(tree.node(n, FI), tree.methods.get(o, M_KIND));
                    boolean told = false;
                    for (int e = tree.methods.get(o, M_THROWS); e != 0 && !told; e = tree.node(e, NX)) {
                        told = types.subtype(t, heads.seen(o, tree.node(e, TY), view, tree.node(n, HI)));
                    }
                    if (!told) {
                        return false;
                    }
                }
            }
            return true;
        }

        /** Whether CA of an expression is a part of it. */
        static boolean partA(int kind) {
            return kind == E_FIELD || kind == E_CALL || (kind >= E_ELEM && kind <= E_ASSIGN);
        }

        /** Whether CB is a part or a list of them. */
        static boolean partB(int kind) {
            switch (kind) {
                case E_CALL:
                case E_NEW:
                case E_ARRAY:
                case E_ARRAYINIT:
                case E_INIT:
                case E_ELEM:
                case E_BIN:
                case E_COND:
                case E_ASSIGN: return true;
                default: return false;
            }
        }

        // ---- what is assigned [16]

        void judgeAssigned() {
            for (int k = BUILT_INS; k < tree.kinds.size(); k++) {
                home = k;
                targetCount = 0;
                tryCount = 0;
                initials(IN_START, 0);
                long start = da & stillBits();
                initials(IN_OBJECT, start);
                long fieldDa = da & FIELD_BITS;
                long fieldDu = du & FIELD_BITS;
                for (int m = tree.kinds.get(k, K_M0); m < tree.kinds.get(k, K_M1); m++) {
                    judgeBody(m, start, fieldDa, fieldDu);
                }
            }
        }

        /** The bits of the static fields, which are assigned in the class's start alone. */
        private long stillBits() {
            long set = 0;
            for (int f = tree.kinds.get(home, K_F0); f < tree.kinds.get(home, K_F1); f++) {
                int bit = tree.fields.get(f, F_BIT);
                if (bit >= 0 && tree.fields.has(f, F_FLAGS, STATIC)) {
                    set |= 1L << bit;
                }
            }
            return set;
        }

        /** The initial values of objects or of the class's start; ahead is what is assigned ahead of them. */
        private void initials(int what, long ahead) {
            mode = what;
            da = ahead;
            du = ALL;
            boolean still = what == IN_START;
            for (int f = tree.kinds.get(home, K_F0); f < tree.kinds.get(home, K_F1); f++) {
                if (tree.fields.has(f, F_FLAGS, STATIC) == still && tree.fields.get(f, F_INIT) != 0) {
                    visit(tree.fields.get(f, F_INIT));
                }
            }
            if (still || tree.kinds.get(home, K_CTOR) >= 0) {
                for (int f = tree.kinds.get(home, K_F0); f < tree.kinds.get(home, K_F1); f++) {
                    if (missing(f, still, da)) {
                        tree.report(61, tree.fields.get(f, F_PLACE));
                    }
                }
            }
        }

        private boolean missing(int f, boolean still, long set) {
            int bit = tree.fields.has(f, F_FLAGS, STATIC) == still ? fieldBit(f) : -1;
            return bit >= 0 && (set >> bit & 1) == 0;
        }

        /** Objects' initial values and constructors read static fields, too, as the class's start leaves them. */
        private int fieldBit(int f) {
            boolean seen = mode == IN_OBJECT || (mode == IN_START && tree.fields.has(f, F_FLAGS, STATIC));
            return seen && tree.fields.get(f, F_KIND) == home ? tree.fields.get(f, F_BIT) : -1;
        }

        private void judgeBody(int m, long start, long fieldDa, long fieldDu) {
            int body = tree.methods.get(m, M_BODY);
            boolean builds = tree.methods.has(m, M_FLAGS, CTOR);
            mode = builds ? IN_OBJECT : IN_METHOD;
            da = start;
            du = ALL;
            endDa = ALL;
            for (int n = tree.methods.get(m, M_FORMALS); n != 0; n = tree.node(n, NX)) {
                settle(localBit(tree.node(n, SY)));
            }
            int first = tree.node(body, CA);
            boolean again = tree.node(first, KD) == S_THIS;
            if (builds) {
                if (again || tree.node(first, KD) == S_SUPER) {
                    visitAll(tree.node(first, CB));
                    first = tree.node(first, NX);
                }
                da = (da & ~FIELD_BITS) | (again ? start | (FIELD_BITS & ~stillBits()) : fieldDa);
                du = (du & ~FIELD_BITS) | (again ? 0 : fieldDu);
            }
            for (int n = first; n != 0; n = tree.node(n, NX)) {
                statement(n);
            }
            if (builds && !again) {
                for (int f = tree.kinds.get(home, K_F0); f < tree.kinds.get(home, K_F1); f++) {
                    if (missing(f, false, da & endDa)) {
                        tree.report(61, tree.methods.get(m, M_PLACE));
                    }
                }
            }
        }

        // ---- bits

        private int localBit(int l) {
            return Math.min(39, tree.locals.get(l, L_BIT));
        }

        private void settle(int bit) {
            if (bit >= 0) {
                da |= 1L << bit;
                du &= ~(1L << bit);
            }
        }

        private void declare(int bit) {
            da &= ~(1L << bit);
            du |= 1L << bit;
        }

        private void die() {
            da = ALL;
            du = ALL;
        }

        /** The bit of what a name, or this and a name, means; -1 if it isn't looked at. */
        private int bitOf(int n) {
            int what = tree.node(n, OP);
            if (tree.node(n, KD) == E_NAME && what == IS_LOCAL) {
                return localBit(tree.node(n, SY));
            }
            boolean byThis = tree.node(n, KD) == E_FIELD && tree.node(tree.node(n, CA), KD) == E_THIS;
            if ((tree.node(n, KD) == E_NAME || byThis) && what == IS_FIELD) {
                return fieldBit(tree.node(n, SY));
            }
            return -1;
        }

        private void read(int n) {
            int bit = bitOf(n);
            if (bit >= 0 && (da >> bit & 1) == 0) {
                tree.report(61, tree.node(n, PL));
            }
        }

        private void assign(int n, int place) {
            int bit = bitOf(n);
            if (bit < 0) {
                return;
            }
            boolean lasting = bit >= 40 || tree.locals.has(tree.node(n, SY), L_FLAGS, L_FINAL);
            if (lasting && (du >> bit & 1) == 0) {
                tree.report(62, place);
            }
            settle(bit);
        }

        /** The bits of all that is assigned between two places. */
        private long touched(int from, int to) {
            long set = 0;
            for (int p = Math.max(0, from); p <= to && p < tree.atPlace.length; p++) {
                int n = tree.atPlace[p];
                int kind = tree.node(n, KD);
                if (kind == E_ASSIGN || kind == E_PREINC || kind == E_POSTINC) {
                    int bit = bitOf(tree.node(n, CA));
                    set |= bit >= 0 ? 1L << bit : 0;
                }
            }
            return set;
        }

        // ---- expressions

        private void visitAll(int first) {
            for (int e = first; e != 0; e = tree.node(e, NX)) {
                visit(e);
            }
        }

        private void visitPart(int n) {
            if (n != 0 && (tree.node(n, FL) & IS_EXP) != 0) {
                visit(n);
            }
        }

        private void visit(int n) {
            int kind = tree.node(n, KD);
            int op = tree.node(n, OP);
            switch (kind) {
                case E_NAME: read(n); break;
                case E_FIELD:
                    read(n);
                    visitPart(tree.node(n, CA));
                    break;
                case E_ASSIGN: visitAssign(n); break;
                case E_PREINC:
                case E_POSTINC:
                    visit(tree.node(n, CA));
                    assign(tree.node(n, CA), tree.node(n, PL));
                    break;
                case E_COND:
                    visitConditional(n);
                    break;
                default:
                    if ((kind == E_BIN && (op == T_ANDAND || op == T_OROR)) || (kind == E_PRE && op == T_NOT)) {
                        ask(n);
                        da = daTrue & daFalse;
                        du = duTrue & duFalse;
                    } else {
                        visitParts(n);
                    }
            }
        }

        private void visitParts(int n) {
            int kind = tree.node(n, KD);
            if (partA(kind)) {
                visitPart(tree.node(n, CA));
            }
            if (partB(kind)) {
                visitAll(tree.node(n, CB));
            }
        }

        private void visitConditional(int n) {
            ask(tree.node(n, CA));
            long d = daFalse;
            long u = duFalse;
            da = daTrue;
            du = duTrue;
            visit(tree.node(n, CB));
            long d2 = da;
            long u2 = du;
            da = d;
            du = u;
            visit(tree.node(n, CC));
            da &= d2;
            du &= u2;
        }

        private void visitAssign(int n) {
            int left = tree.node(n, CA);
            int kind = tree.node(left, KD);
            if (tree.node(n, OP) != T_ASSIGN) {
                visit(left);
            } else if (kind == E_ELEM) {
                visitParts(left);
            } else if (kind == E_FIELD) {
                visitPart(tree.node(left, CA));
            }
            visit(tree.node(n, CB));
            assign(left, tree.node(n, PL));
        }

        /** A condition: what is assigned behind it when it is true, and when it is false. */
        private void ask(int n) {
            long d = da;
            long u = du;
            askParts(n);
            if ((tree.node(n, FL) & CONST) != 0) {
                boolean yes = tree.node(n, LO) != 0;
                daTrue = yes ? d : ALL;
                duTrue = yes ? u : ALL;
                daFalse = yes ? ALL : d;
                duFalse = yes ? ALL : u;
            }
        }

        private void askParts(int n) {
            int kind = tree.node(n, KD);
            int op = tree.node(n, OP);
            if (kind == E_BIN && op == T_ANDAND) {
                ask(tree.node(n, CA));
                long d = daFalse;
                long u = duFalse;
                da = daTrue;
                du = duTrue;
                ask(tree.node(n, CB));
                daFalse &= d;
                duFalse &= u;
            } else if (kind == E_BIN && op == T_OROR) {
                ask(tree.node(n, CA));
                long d = daTrue;
                long u = duTrue;
                da = daFalse;
                du = duFalse;
                ask(tree.node(n, CB));
                daTrue &= d;
                duTrue &= u;
            } else if (kind == E_PRE && op == T_NOT) {
                ask(tree.node(n, CA));
                long d = daTrue;
                long u = duTrue;
                daTrue = daFalse;
                duTrue = duFalse;
                daFalse = d;
                duFalse = u;
            } else if (kind == E_COND && tree.node(n, TY) == BOOLEAN) {
                askConditional(n);
            } else {
                visit(n);
                daTrue = da;
                duTrue = du;
                daFalse = da;
                duFalse = du;
            }
        }

        private void askConditional(int n) {
            ask(tree.node(n, CA));
            long d = daFalse;
            long u = duFalse;
            da = daTrue;
            du = duTrue;
            ask(tree.node(n, CB));
            long dt = daTrue;
            long ut = duTrue;
            long df = daFalse;
            long uf = duFalse;
            da = d;
            du = u;
            ask(tree.node(n, CC));
            daTrue &= dt;
            duTrue &= ut;
            daFalse &= df;
            duFalse &= uf;
        }

        // ---- jumps

        private int enterTarget(int n) {
            int i = Math.min(targetCount, targets.length - 1);
            targets[i] = n;
            heights[i] = tryCount;
            targetCount = i + 1;
            forget(i);
            return i;
        }

        private void forget(int i) {
            for (int j = 0; j < 4; j++) {
                sums[i * 4 + j] = ALL;
            }
        }

        private void leave() {
            targetCount--;
        }

        /** A jump to a statement (or out of the body, goal 0) through the finally blocks between. */
        private void jump(int goal, boolean on) {
            int i = targetCount - 1;
            while (i >= 0 && (goal == 0 || targets[i] != goal)) {
                i--;
            }
            int least = i >= 0 ? heights[i] : 0;
            for (int t = tryCount - 1; t >= least; t--) {
                da |= ends[t * 2];
                du &= ends[t * 2 + 1];
            }
            if (i >= 0) {
                sums[i * 4 + (on ? 2 : 0)] &= da;
                sums[i * 4 + (on ? 3 : 1)] &= du;
            } else {
                endDa &= da;
            }
            die();
        }

        // ---- statements

        private void statement(int n) {
            switch (tree.node(n, KD)) {
                case S_BLOCK:
                    for (int s = tree.node(n, CA); s != 0; s = tree.node(s, NX)) {
                        statement(s);
                    }
                    break;
                case S_LOCAL: localStatement(n); break;
                case S_EXP: visit(tree.node(n, CA)); break;
                case S_IF: ifStatement(n); break;
                case S_WHILE:
                case S_FOR: loopStatement(n); break;
                case S_DO: doStatement(n); break;
                case S_EACH: eachStatement(n); break;
                case S_LABEL: {
                    int i = enterTarget(n);
                    statement(tree.node(n, CA));
                    da &= sums[i * 4];
                    du &= sums[i * 4 + 1];
                    leave();
                    break;
                }
                case S_SWITCH: switchStatement(n); break;
                case S_TRY: tryStatement(n); break;
                case S_BREAK: jump(tree.node(n, SY), false); break;
                case S_CONT: jump(tree.node(n, SY), true); break;
                case S_RETURN:
                    visitPart(tree.node(n, CA));
                    jump(0, false);
                    break;
                case S_THROW:
                    visit(tree.node(n, CA));
                    die();
                    break;
                default: break;
            }
        }

        private void localStatement(int n) {
            for (int d = tree.node(n, CB); d != 0; d = tree.node(d, NX)) {
                int bit = localBit(tree.node(d, SY));
                declare(bit);
                if (tree.node(d, CA) != 0) {
                    visit(tree.node(d, CA));
                    settle(bit);
                }
            }
        }

        private void ifStatement(int n) {
            ask(tree.node(n, CA));
            long d = daFalse;
            long u = duFalse;
            da = daTrue;
            du = duTrue;
            statement(tree.node(n, CB));
            if (tree.node(n, CC) != 0) {
                long d2 = da;
                long u2 = du;
                da = d;
                du = u;
                statement(tree.node(n, CC));
                d = d2;
                u = u2;
            }
            da &= d;
            du &= u;
        }

        /** while and for: what isn't unassigned behind a round isn't so ahead of it either. */
        private void loopStatement(int n) {
            boolean plain = tree.node(n, KD) == S_WHILE;
            int init = tree.node(n, CA);
            if (!plain && tree.node(init, KD) == S_LOCAL) {
                localStatement(init);
            } else if (!plain) {
                visitAll(init);
            }
            int condition = tree.node(n, plain ? CA : CB);
            int i = enterTarget(n);
            long ahead = da;
            long open = du;
            long outDa = ALL;
            long outDu = ALL;
            for (int round = 0; round < 70; round++) {
                forget(i);
                da = ahead;
                du = open;
                askLoop(condition);
                outDa = daFalse;
                outDu = duFalse;
                da = daTrue;
                du = duTrue;
                statement(tree.node(n, plain ? CB : CD));
                da &= sums[i * 4 + 2];
                du &= sums[i * 4 + 3];
                if (!plain) {
                    visitAll(tree.node(n, CC));
                }
                if ((open & ~du) == 0) {
                    break;
                }
                open &= du;
            }
            da = outDa & sums[i * 4];
            du = outDu & sums[i * 4 + 1];
            leave();
        }

        private void askLoop(int condition) {
            if (condition != 0) {
                ask(condition);
                return;
            }
            daTrue = da;
            duTrue = du;
            daFalse = ALL;
            duFalse = ALL;
        }

        private void doStatement(int n) {
            int i = enterTarget(n);
            long ahead = da;
            long open = du;
            for (int round = 0; round < 70; round++) {
                forget(i);
                da = ahead;
                du = open;
                statement(tree.node(n, CB));
                da &= sums[i * 4 + 2];
                du &= sums[i * 4 + 3];
                ask(tree.node(n, CA));
                if ((open & ~duTrue) == 0) {
                    break;
                }
                open &= duTrue;
            }
            da = daFalse & sums[i * 4];
            du = duFalse & sums[i * 4 + 1];
            leave();
        }

        private void eachStatement(int n) {
            visit(tree.node(n, CC));
            int bit = localBit(tree.node(tree.node(tree.node(n, CA), CB), SY));
            int i = enterTarget(n);
            long ahead = da;
            long open = du;
            for (int round = 0; round < 70; round++) {
                forget(i);
                da = ahead;
                du = open;
                declare(bit);
                settle(bit);
                statement(tree.node(n, CD));
                du &= sums[i * 4 + 3];
                long back = du | (1L << bit);
                if ((open & ~back) == 0) {
                    break;
                }
                open &= back;
            }
            da = ahead & sums[i * 4];
            du = open & sums[i * 4 + 1];
            leave();
        }

        private void switchStatement(int n) {
            visit(tree.node(n, CA));
            long own = 0;
            boolean whole = false;
            for (int s = tree.node(n, CB); s != 0; s = tree.node(s, NX)) {
                whole = whole || tree.node(s, KD) == S_DEFAULT;
                for (int d = tree.node(s, KD) == S_LOCAL ? tree.node(s, CB) : 0; d != 0; d = tree.node(d, NX)) {
                    own |= 1L << localBit(tree.node(d, SY));
                }
            }
            long ahead = da & ~own;
            long open = du | own;
            boolean some = tree.node(n, CB) != 0;
            int i = enterTarget(n);
            if (some) {
                die();
            }
            for (int s = tree.node(n, CB); s != 0; s = tree.node(s, NX)) {
                if (tree.node(s, KD) == S_CASE || tree.node(s, KD) == S_DEFAULT) {
                    da &= ahead;
                    du &= open;
                } else {
                    statement(s);
                }
            }
            if (!whole) {
                da &= ahead;
                du &= open;
            }
            da &= sums[i * 4];
            du &= sums[i * 4 + 1];
            leave();
        }

        private void tryStatement(int n) {
            int block = tree.node(n, CA);
            int last = tree.node(n, CC);
            long ahead = da;
            long open = du;
            int behind = tree.node(block, XT);
            long mine = touched(tree.node(block, FI), behind);
            for (int c = tree.node(n, CB); c != 0; c = tree.node(c, NX)) {
                behind = tree.node(tree.node(c, CC), XT);
            }
            if (last != 0) {
                du = open & ~touched(tree.node(block, FI), behind);
                statement(last);
                int t = Math.min(tryCount, tries.length - 1);
                tries[t] = n;
                ends[t * 2] = da;
                ends[t * 2 + 1] = du;
                tryCount = t + 1;
            }
            da = ahead;
            du = open;
            statement(block);
            long endDaBlock = da;
            long endDuBlock = du;
            for (int c = tree.node(n, CB); c != 0; c = tree.node(c, NX)) {
                da = ahead;
                du = open & ~mine;
                settle(localBit(tree.node(tree.node(c, CB), SY)));
                statement(tree.node(c, CC));
                endDaBlock &= da;
                endDuBlock &= du;
            }
            da = endDaBlock;
            du = endDuBlock;
            if (last != 0) {
                tryCount--;
                da |= ends[tryCount * 2];
                du &= ends[tryCount * 2 + 1];
            }
        }
    }

    /** What is kept of the text that is taken: what is told of it, and the steps that the machine does. */
    private static final class Told {
        private final Rows exps = new Rows(TAPE + 1, 8, 0);
        private final Rows calls = new Rows(1100, 4, 0);
        private final Rows kinds = new Rows(24, 7, 0);
        private final Rows methods = new Rows(120, 6, 0);
        private final Rows serving = new Rows(24, 120, 0);
        private final int[] counts = new int[7];
        private final int[] code = new int[30000];
        private int codeUsed;
        private final Rows traps = new Rows(500, 4, 0);
        private final Rows bodies = new Rows(170, 6, 0);
        private final int[] formals = new int[1400];
        private int formalsUsed;
        private final Rows below = new Rows(ALL_KINDS, ALL_KINDS, 0);
        private final Rows shapes = new Rows(ALL_KINDS, 3, 0);
        private final Rows statics = new Rows(121, 2, 0);
        private boolean taken;
        private boolean starts;

        void clear() {
            exps.cut(0);
            calls.cut(0);
            kinds.cut(0);
            methods.cut(0);
            serving.cut(0);
            for (int i = 0; i < counts.length; i++) {
                counts[i] = 0;
            }
            codeUsed = 0;
            traps.cut(0);
            bodies.cut(0);
            formalsUsed = 0;
            below.cut(0);
            shapes.cut(0);
            statics.cut(0);
            starts = false;
        }

        int codeAt(int i) {
            return i >= 0 && i < codeUsed ? code[i] : O_HALT;
        }

        void emit(int word) {
            if (codeUsed < code.length) {
                code[codeUsed] = word;
                codeUsed++;
            }
        }

        void mend(int i, int word) {
            if (i >= 0 && i < codeUsed) {
                code[i] = word;
            }
        }

        void addFormal(int shape) {
            if (formalsUsed < formals.length) {
                formals[formalsUsed] = shape;
                formalsUsed++;
            }
        }

        int formalAt(int i) {
            return i >= 0 && i < formalsUsed ? formals[i] : 0;
        }
    }

    /** Writes down a text that is taken. */
    private static final class Coder {
        private static final int RETURNS = 12;
        private static final int INIT_SLOT = 41;

        private final Tree tree;
        private final Types types;
        private final Heads heads;
        private final Told told;
        private int shift;
        private int returns;
        private int temp;
        private int tempMost;
        private final int[] finals = new int[64];
        private int finalCount;
        private int level;
        private int spell;

        Coder(Tree tree, Types types, Heads heads, Told told) {
            this.tree = tree;
            this.types = types;
            this.heads = heads;
            this.told = told;
        }

        void write() {
            told.clear();
            tellKinds();
            tellMethods();
            tellExpressions();
            laySlots();
            layShapes();
            layMain();
            for (int k = BUILT_INS; k < tree.kinds.size(); k++) {
                codeKind(k);
            }
            for (int m = BUILT_METHODS; m < tree.methods.size(); m++) {
                codeMethod(m);
            }
            told.taken = true;
        }

        // ---- what is told

        private void tellKinds() {
            for (int k = BUILT_INS; k < tree.kinds.size(); k++) {
                int row = told.kinds.add();
                boolean face = tree.isInterface(k);
                told.kinds.put(row, 0, tree.kinds.get(k, K_PLACE));
                told.kinds.put(row, 1, face ? 1 : 0);
                told.kinds.put(row, 2, tree.kindNumber(tree.kinds.get(k, K_PARENT)));
                told.kinds.put(row, 3, tree.listLength(tree.kinds.get(k, K_IMPL)));
                told.kinds.put(row, 4, tree.kinds.get(k, K_VARS));
                told.kinds.put(row, 5, face ? 0 : objectFields(k));
                told.kinds.put(row, 6, tree.kinds.get(k, K_MEM1) - tree.kinds.get(k, K_MEM0));
                int serve = told.serving.add();
                boolean whole = !tree.kinds.has(k, K_FLAGS, ABSTRACT);
                for (int m = BUILT_METHODS; m < tree.told; m++) {
                    int done = whole ? heads.served(k, m) : NONE;
                    told.serving.put(serve, m - BUILT_METHODS, done < 0 ? NONE : done - BUILT_METHODS);
                }
            }
        }

        private int ownFields(int k) {
            int many = 0;
            for (int f = tree.kinds.get(k, K_F0); f < tree.kinds.get(k, K_F1); f++) {
                many += tree.fields.has(f, F_FLAGS, STATIC) ? 0 : 1;
            }
            return many;
        }

        private int objectFields(int k) {
            int many = 0;
            int at = k;
            for (int i = 0; i < ALL_KINDS && at >= BUILT_INS; i++) {
                many += ownFields(at);
                at = tree.kinds.get(at, K_PARENT);
            }
            return many;
        }

        private void tellMethods() {
            for (int m = BUILT_METHODS; m < tree.told; m++) {
                int row = told.methods.add();
                int flags = tree.methods.get(m, M_FLAGS);
                told.methods.put(row, 0, tree.methods.get(m, M_PLACE));
                told.methods.put(row, 1, tree.kindNumber(tree.methods.get(m, M_KIND)));
                told.methods.put(row, 2, tree.methods.get(m, M_COUNT));
                told.methods.put(row, 3, types.tag(tree.methods.get(m, M_TYPE)));
                int shown = ((flags & STATIC) != 0 ? 1 : 0) + ((flags & ABSTRACT) != 0 ? 2 : 0);
                shown += ((flags & FINAL) != 0 ? 4 : 0) + ((flags & VARARGS) != 0 ? 8 : 0);
                told.methods.put(row, 4, shown);
                told.methods.put(row, 5, tree.methods.get(m, M_LOCALS));
            }
        }

        private void tellExpressions() {
            for (int p = 0; p < tree.atPlace.length && p <= tree.length; p++) {
                int n = tree.atPlace[p];
                int kind = tree.node(n, KD);
                if (kind == E_CALL || kind == E_NEW || kind == S_THIS || kind == S_SUPER) {
                    tellCall(n, kind);
                }
                if (n != 0 && kind <= E_ASSIGN) {
                    tellExpression(n);
                }
            }
            told.counts[0] = told.kinds.size();
            told.counts[1] = told.methods.size();
            told.counts[2] = tree.fields.size();
            told.counts[3] = told.exps.size();
            told.counts[4] = told.calls.size();
        }

        private void tellCall(int n, int kind) {
            int row = told.calls.add();
            told.calls.put(row, 0, tree.node(n, PL));
            told.calls.put(row, 1, tree.methods.get(tree.node(n, SY), M_NUM));
            told.calls.put(row, 2, tree.node(n, LO));
            told.calls.put(row, 3, kind == E_CALL ? tree.node(n, OP) : 1);
        }

        private void tellExpression(int n) {
            int row = told.exps.add();
            int t = tree.node(n, TY);
            boolean still = (tree.node(n, FL) & CONST) != 0;
            int tag = types.tag(t);
            int number = tag == TAG_KIND ? tree.kindNumber(types.of(t)) : tag == TAG_VAR ? types.of(t) : 0;
            told.exps.put(row, 0, tree.node(n, PL));
            told.exps.put(row, 1, tag);
            told.exps.put(row, 2, tree.node(n, CV));
            told.exps.put(row, 3, still ? 1 : 0);
            told.exps.put(row, 4, tag == TAG_ARRAY ? types.dims(t) : number);
            told.exps.put(row, 5, types.tag(types.behindDims(t)));
            told.exps.putWide(row, 6, still ? tree.nodes.wide(n, LO) : 0);
            told.counts[6] += still ? 1 : 0;
            if (tree.node(n, KD) == E_CAST && tree.node(tree.node(n, CA), CV) == 10) {
                told.counts[5]++;
            }
        }

        // ---- where things lie

        private void laySlots() {
            for (int f = 0; f < tree.fields.size(); f++) {
                int row = told.statics.add();
                told.statics.putWide(row, 0, tree.fields.get(f, F_CONST) == 1 ? tree.fields.wide(f, F_LO) : 0);
                int k = tree.fields.get(f, F_KIND);
                int slot = f;
                if (!tree.fields.has(f, F_FLAGS, STATIC)) {
                    slot = 1 + objectFields(tree.kinds.get(k, K_PARENT));
                    for (int g = tree.kinds.get(k, K_F0); g < f; g++) {
                        slot += tree.fields.has(g, F_FLAGS, STATIC) ? 0 : 1;
                    }
                }
                tree.fields.put(f, F_SLOT, slot);
            }
        }

        private void layShapes() {
            for (int k = 0; k < tree.kinds.size(); k++) {
                int row = told.below.add();
                for (int j = 0; j < tree.kinds.size(); j++) {
                    told.below.put(row, j, types.kindBelow(k, j) ? 1 : 0);
                }
                int shape = told.shapes.add();
                told.shapes.put(shape, 0, 1 + objectFields(k));
                told.shapes.put(shape, 2, tree.kindNumber(k));
            }
            for (int m = 0; m < tree.methods.size(); m++) {
                int row = told.bodies.add();
                int many = tree.methods.get(m, M_COUNT);
                boolean still = tree.methods.has(m, M_FLAGS, STATIC);
                told.bodies.put(row, 2, many + (still ? 0 : 1));
                told.bodies.put(row, 3, told.formalsUsed);
                told.bodies.put(row, 4, many);
                told.bodies.put(row, 5, still ? 1 : 0);
                for (int i = 0; i < many; i++) {
                    told.addFormal(shape(types.listed(tree.methods.get(m, M_FTYPES) + i)));
                }
            }
        }

        /** A type as the machine knows it: its erasure behind all [ ], and how many they are. */
        private int shape(int t) {
            int e = types.erasure(t);
            int b = types.behindDims(e);
            int base = types.isKind(b) ? 8 + types.of(b) : b;
            return (base << DIM_BITS) + Math.min(DIM_MOST, types.dims(e));
        }

        private void layMain() {
            int k = tree.kindNamed(NAME_MAINKIND);
            for (int m = tree.kinds.get(k, K_M0); k >= 0 && m < tree.kinds.get(k, K_M1); m++) {
                boolean fits = tree.methods.get(m, M_NAME) == NAME_MAIN && tree.methods.has(m, M_FLAGS, STATIC);
                fits = fits && tree.methods.get(m, M_TYPE) == VOID && tree.methods.get(m, M_COUNT) == 0;
                if (fits && tree.methods.get(m, M_VARS) == 0) {
                    told.starts = true;
                    put(O_START, k);
                    put(O_CALL, m);
                }
            }
            told.emit(O_HALT);
        }

        // ---- words of code

        private void put(int op, int a) {
            told.emit(op);
            told.emit(a);
        }

        private void put(int op, int a, int b) {
            told.emit(op);
            told.emit(a);
            told.emit(b);
        }

        private void number(long v) {
            put(O_PUSH, (int) v, (int) (v >> 32));
        }

        /** A jump whose goal is told later; where that stands. */
        private int jump(int op) {
            put(op, 0);
            return told.codeUsed - 1;
        }

        private void land(int where) {
            told.mend(where, told.codeUsed);
        }

        /** A jump to the end (LO) or the next round (HI) of a statement: they hang from one another till it is known. */
        private void jumpTo(int op, int n, int column) {
            put(op, tree.node(n, column));
            tree.set(n, column, told.codeUsed - 1);
        }

        private void landAll(int n, int column) {
            int at = tree.node(n, column);
            for (int i = 0; i < MANY && at > 0; i++) {
                int next = told.codeAt(at);
                told.mend(at, told.codeUsed);
                at = next;
            }
            tree.set(n, column, 0);
        }

        private int takeTemp() {
            int t = temp;
            temp++;
            tempMost = Math.max(tempMost, temp);
            return t;
        }

        private int slot(int decl) {
            return shift + tree.locals.get(tree.node(decl, SY), L_BIT);
        }

        // ---- bodies

        private void enterBody(int first, int many) {
            shift = first;
            returns = first + many;
            temp = returns + RETURNS;
            tempMost = temp;
            finalCount = 0;
            level = 0;
        }

        private void codeKind(int k) {
            spell = -1;
            enterBody(1, INIT_SLOT);
            tree.kinds.put(k, K_INIT, told.codeUsed);
            codeInitials(k, false);
            put(O_BACK, INIT_SLOT);
            told.shapes.put(k, 1, told.codeUsed);
            int parent = tree.kinds.get(k, K_PARENT);
            if (parent >= BUILT_INS) {
                put(O_START, parent);
            }
            told.emit(O_STEP);
            codeInitials(k, true);
            told.emit(O_ENDSTART);
        }

        private void codeInitials(int k, boolean still) {
            for (int f = tree.kinds.get(k, K_F0); f < tree.kinds.get(k, K_F1); f++) {
                int init = tree.fields.get(f, F_INIT);
                boolean done = still && tree.fields.get(f, F_CONST) == 1;
                if (init != 0 && tree.fields.has(f, F_FLAGS, STATIC) == still && !done) {
                    if (!still) {
                        put(O_LOAD, 0);
                    }
                    value(init);
                    put(still ? O_PUTS : O_PUTF, tree.fields.get(f, F_SLOT));
                    told.emit(O_POP);
                }
            }
        }

        private void codeMethod(int m) {
            spell = m;
            boolean builds = tree.methods.has(m, M_FLAGS, CTOR);
            int first = tree.methods.has(m, M_FLAGS, STATIC) ? 0 : 1;
            enterBody(first, builds ? INIT_SLOT : tree.methods.get(m, M_LOCALS));
            told.bodies.put(m, 0, told.codeUsed);
            int s = tree.node(tree.methods.get(m, M_BODY), CA);
            if (builds) {
                int kind = tree.node(s, KD);
                boolean calls = kind == S_THIS || kind == S_SUPER;
                codeConstructorCall(m, calls ? s : 0);
                if (kind != S_THIS) {
                    put(O_JSR, INIT_SLOT, tree.kinds.get(tree.methods.get(m, M_KIND), K_INIT));
                }
                s = calls ? tree.node(s, NX) : s;
            }
            for (int n = s; n != 0; n = tree.node(n, NX)) {
                statement(n);
            }
            told.emit(O_RET);
            told.bodies.put(m, 1, tempMost);
        }

        /** this(..), super(..), or what is called where none is told (n is 0). */
        private void codeConstructorCall(int m, int n) {
            int called = n != 0 ? tree.node(n, SY) : tree.methods.get(m, M_CALLS);
            if (n != 0) {
                told.emit(O_STEP);
            }
            if (called < BUILT_METHODS) {
                return;
            }
            put(O_LOAD, 0);
            if (n != 0) {
                arguments(n);
            } else if (tree.methods.get(m, M_PHASE) == 3) {
                number(0);
                put(O_ARRAY, shape(heads.formal(called, 0, tree.methods.get(m, M_VIEW), NONE)), 1);
            }
            put(O_CALL, called);
        }

        // ---- statements

        private void statement(int n) {
            int kind = tree.node(n, KD);
            if (kind != S_BLOCK && kind != S_LABEL) {
                told.emit(O_STEP);
            }
            if (kind != S_THIS && kind != S_SUPER) {
                tree.set(n, LO, 0);
                tree.set(n, HI, 0);
                tree.set(n, CV, finalCount);
            }
            switch (kind) {
                case S_BLOCK: list(tree.node(n, CA)); break;
                case S_LABEL:
                    statement(tree.node(n, CA));
                    landAll(n, LO);
                    break;
                case S_LOCAL: localStatement(n); break;
                case S_EXP:
                    code(tree.node(n, CA));
                    if (tree.node(tree.node(n, CA), TY) != VOID) {
                        told.emit(O_POP);
                    }
                    break;
                case S_IF: ifStatement(n); break;
                case S_WHILE: whileStatement(n); break;
                case S_DO: doStatement(n); break;
                case S_FOR: forStatement(n); break;
                case S_EACH: eachStatement(n); break;
                case S_BREAK:
                case S_CONT: {
                    int goal = tree.node(n, SY);
                    throughFinals(tree.node(goal, CV));
                    jumpTo(O_JUMP, goal, kind == S_BREAK ? LO : HI);
                    break;
                }
                case S_RETURN: returnStatement(n); break;
                case S_THROW:
                    value(tree.node(n, CA));
                    told.emit(O_THROW);
                    break;
                case S_TRY: tryStatement(n); break;
                case S_SWITCH: switchStatement(n); break;
                default: break;
            }
        }

        private void list(int first) {
            for (int s = first; s != 0; s = tree.node(s, NX)) {
                statement(s);
            }
        }

        private void localStatement(int n) {
            for (int d = tree.node(n, CB); d != 0; d = tree.node(d, NX)) {
                if (tree.node(d, CA) != 0) {
                    value(tree.node(d, CA));
                    put(O_STORE, slot(d));
                }
            }
        }

        private void ifStatement(int n) {
            value(tree.node(n, CA));
            int no = jump(O_JZ);
            statement(tree.node(n, CB));
            if (tree.node(n, CC) != 0) {
                int end = jump(O_JUMP);
                land(no);
                statement(tree.node(n, CC));
                land(end);
            } else {
                land(no);
            }
        }

        private void whileStatement(int n) {
            int round = told.codeUsed;
            told.emit(O_STEP);
            value(tree.node(n, CA));
            jumpTo(O_JZ, n, LO);
            statement(tree.node(n, CB));
            landBack(n, round);
            put(O_JUMP, round);
            landAll(n, LO);
        }

        /** Continues go back to where a round begins. */
        private void landBack(int n, int round) {
            int at = tree.node(n, HI);
            for (int i = 0; i < MANY && at > 0; i++) {
                int next = told.codeAt(at);
                told.mend(at, round);
                at = next;
            }
            tree.set(n, HI, 0);
        }

        private void doStatement(int n) {
            int round = told.codeUsed;
            statement(tree.node(n, CB));
            landAll(n, HI);
            told.emit(O_STEP);
            value(tree.node(n, CA));
            put(O_JNZ, round);
            landAll(n, LO);
        }

        private void forStatement(int n) {
            int init = tree.node(n, CA);
            if (tree.node(init, KD) == S_LOCAL) {
                localStatement(init);
            } else {
                actions(init);
            }
            int round = told.codeUsed;
            told.emit(O_STEP);
            if (tree.node(n, CB) != 0) {
                value(tree.node(n, CB));
                jumpTo(O_JZ, n, LO);
            }
            statement(tree.node(n, CD));
            landAll(n, HI);
            actions(tree.node(n, CC));
            put(O_JUMP, round);
            landAll(n, LO);
        }

        private void actions(int first) {
            for (int e = first; e != 0; e = tree.node(e, NX)) {
                code(e);
                if (tree.node(e, TY) != VOID) {
                    told.emit(O_POP);
                }
            }
        }

        private void eachStatement(int n) {
            int mark = temp;
            int row = takeTemp();
            int index = takeTemp();
            value(tree.node(n, CC));
            told.emit(O_NULLCHECK);
            put(O_STORE, row);
            number(0);
            put(O_STORE, index);
            int round = told.codeUsed;
            told.emit(O_STEP);
            put(O_LOAD, index);
            put(O_LOAD, row);
            told.emit(O_LENGTH);
            put(O_CMP, T_LT);
            jumpTo(O_JZ, n, LO);
            put(O_LOAD, row);
            put(O_LOAD, index);
            told.emit(O_ALOAD);
            int from = tree.node(n, TY);
            int to = tree.node(n, TG);
            bring(types.conversion(from, to), from, to);
            put(O_STORE, slot(tree.node(tree.node(n, CA), CB)));
            statement(tree.node(n, CD));
            landAll(n, HI);
            put(O_LOAD, index);
            number(1);
            put(O_WORK, T_PLUS, 0);
            put(O_STORE, index);
            put(O_JUMP, round);
            landAll(n, LO);
            temp = mark;
        }

        /** The finally blocks that stand between here and the statement that is left. */
        private void throughFinals(int least) {
            for (int i = finalCount - 1; i >= least && i >= 0; i--) {
                callFinally(finals[i]);
            }
        }

        /** Calls of a finally block hang from XT of its try till it is written. */
        private void callFinally(int n) {
            put(O_JSR, tree.node(n, TG), tree.node(n, XT));
            tree.set(n, XT, told.codeUsed - 1);
        }

        private void returnStatement(int n) {
            int e = tree.node(n, CA);
            if (e != 0) {
                value(e);
            }
            if (finalCount > 0) {
                int kept = returns + Math.min(level, RETURNS - 1);
                if (e != 0) {
                    put(O_STORE, kept);
                }
                throughFinals(0);
                if (e != 0) {
                    put(O_LOAD, kept);
                }
            }
            told.emit(e != 0 ? O_RETV : O_RET);
        }

        private void trap(int from, int to, int kind) {
            int row = told.traps.add();
            told.traps.put(row, 0, from);
            told.traps.put(row, 1, to);
            told.traps.put(row, 2, told.codeUsed);
            told.traps.put(row, 3, kind);
        }

        private void tryStatement(int n) {
            int mark = temp;
            int last = tree.node(n, CC);
            int back = takeTemp();
            int thing = takeTemp();
            if (last != 0 && finalCount < finals.length) {
                tree.set(n, TG, back);
                tree.set(n, XT, 0);
                finals[finalCount] = n;
                finalCount++;
            }
            int from = told.codeUsed;
            statement(tree.node(n, CA));
            int to = told.codeUsed;
            leaveTry(n);
            for (int c = tree.node(n, CB); c != 0; c = tree.node(c, NX)) {
                trap(from, to, types.of(tree.node(tree.node(c, CA), TY)));
                put(O_STORE, slot(tree.node(c, CB)));
                statement(tree.node(c, CC));
                leaveTry(n);
            }
            if (last != 0) {
                trap(from, told.codeUsed, NONE);
                put(O_STORE, thing);
                callFinally(n);
                put(O_LOAD, thing);
                told.emit(O_THROW);
                finalCount--;
                landAll(n, XT);
                level++;
                statement(last);
                level--;
                put(O_BACK, back);
            }
            landAll(n, LO);
            temp = mark;
        }

        private void leaveTry(int n) {
            if (tree.node(n, CC) != 0) {
                callFinally(n);
            }
            jumpTo(O_JUMP, n, LO);
        }

        private void switchStatement(int n) {
            value(tree.node(n, CA));
            for (int s = tree.node(n, CB); s != 0; s = tree.node(s, NX)) {
                if (tree.node(s, KD) == S_CASE) {
                    put(O_CASE, tree.node(tree.node(s, CA), LO), 0);
                    tree.set(s, TG, told.codeUsed - 1);
                }
            }
            told.emit(O_POP);
            int other = jump(O_JUMP);
            boolean whole = false;
            for (int s = tree.node(n, CB); s != 0; s = tree.node(s, NX)) {
                if (tree.node(s, KD) == S_CASE) {
                    land(tree.node(s, TG));
                } else if (tree.node(s, KD) == S_DEFAULT) {
                    land(other);
                    whole = true;
                } else {
                    statement(s);
                }
            }
            if (!whole) {
                land(other);
            }
            landAll(n, LO);
        }

        // ---- expressions

        private void value(int n) {
            code(n);
            bring(tree.node(n, CV), tree.node(n, TY), tree.node(n, TG));
        }

        /** A value by a conversion from a type to another one. */
        private void bring(int conversion, int from, int to) {
            switch (conversion) {
                case 2:
                case 11: put(O_SHAPE, to); break;
                case 3:
                case 4: put(O_BOX, from); break;
                case 5:
                case 6: told.emit(O_UNBOX); break;
                case 8:
                    put(O_SHAPE, types.unbox(to));
                    put(O_BOX, types.unbox(to));
                    break;
                case 9:
                case 10: put(O_CHECK, shape(to)); break;
                case 12:
                    put(O_CHECK, shape(types.box(to)));
                    told.emit(O_UNBOX);
                    break;
                default: break;
            }
        }

        /** A value whose told type has another erasure than the expression is looked at. */
        private void look(int toldType, int type) {
            if (types.isRef(type) && shape(toldType) != shape(type)) {
                put(O_CHECK, shape(type));
            }
        }

        private void code(int n) {
            if ((tree.node(n, FL) & CONST) != 0) {
                number(tree.nodes.wide(n, LO));
                return;
            }
            switch (tree.node(n, KD)) {
                case E_NAME:
                case E_FIELD:
                case E_SUPER:
                    codeVariable(n);
                    break;
                case E_LIT: number(0); break;
                case E_THIS: put(O_LOAD, 0); break;
                case E_CALL: codeCall(n); break;
                case E_NEW: codeNew(n); break;
                case E_ARRAY: {
                    for (int e = tree.node(n, CB); e != 0; e = tree.node(e, NX)) {
                        value(e);
                    }
                    put(O_ARRAY, shape(tree.node(n, TY)), tree.listLength(tree.node(n, CB)));
                    break;
                }
                case E_ARRAYINIT: code(tree.node(n, CB)); break;
                case E_INIT:
                    codeRow(shape(tree.node(n, TY)), tree.node(n, CB));
                    break;
                case E_ELEM:
                    value(tree.node(n, CA));
                    value(tree.node(n, CB));
                    told.emit(O_ALOAD);
                    break;
                case E_PRE: codePrefix(n); break;
                case E_PREINC:
                case E_POSTINC: codeCount(n); break;
                case E_CAST: value(tree.node(n, CA)); break;
                case E_BIN: codeBinary(n); break;
                case E_IS:
                    value(tree.node(n, CA));
                    put(O_IS, shape(tree.node(tree.node(n, CB), TY)));
                    break;
                case E_COND: {
                    value(tree.node(n, CA));
                    int no = jump(O_JZ);
                    value(tree.node(n, CB));
                    int end = jump(O_JUMP);
                    land(no);
                    value(tree.node(n, CC));
                    land(end);
                    break;
                }
                case E_ASSIGN: codeAssign(n); break;
                default: break;
            }
        }

        /** An array of these elements: it is there ahead of them. */
        private void codeRow(int shape, int first) {
            number(tree.listLength(first));
            put(O_ARRAY, shape, 1);
            int i = 0;
            for (int e = first; e != 0; e = tree.node(e, NX)) {
                told.emit(O_DUP);
                number(i);
                value(e);
                told.emit(O_ASTORE);
                told.emit(O_POP);
                i++;
            }
        }

        private boolean isStatic(int n) {
            return tree.node(n, OP) == IS_FIELD && tree.fields.has(tree.node(n, SY), F_FLAGS, STATIC);
        }

        /** What stands ahead of a field: an object on the stack, or nothing if it is static. */
        private void codeHolder(int n) {
            int r = tree.node(n, CA);
            boolean still = isStatic(n);
            if (tree.node(n, KD) == E_FIELD && (tree.node(r, FL) & IS_EXP) != 0) {
                code(r);
                if (still) {
                    told.emit(O_POP);
                }
            } else if (!still) {
                put(O_LOAD, 0);
            }
        }

        private void codeVariable(int n) {
            int what = tree.node(n, OP);
            if (what == IS_LOCAL) {
                put(O_LOAD, shift + tree.locals.get(tree.node(n, SY), L_BIT));
                return;
            }
            if (what == IS_LENGTH) {
                code(tree.node(n, CA));
                told.emit(O_LENGTH);
                return;
            }
            codeHolder(n);
            int f = tree.node(n, SY);
            if (tree.fields.get(f, F_CONST) != 1) {
                codeGet(n);
                return;
            }
            // a constant's value is never read from the field [13.1]
            if (!isStatic(n)) {
                told.emit(O_NULLCHECK);
                told.emit(O_POP);
            }
            number(tree.fields.wide(f, F_LO));
        }

        private void codeGet(int n) {
            int f = tree.node(n, SY);
            if (!isStatic(n)) {
                put(O_GETF, tree.fields.get(f, F_SLOT));
            } else {
                put(O_START, tree.fields.get(f, F_KIND));
                put(O_GETS, tree.fields.get(f, F_SLOT));
            }
            look(tree.fields.get(f, F_TYPE), tree.node(n, TY));
        }

        private void arguments(int n) {
            int m = tree.node(n, SY);
            int many = tree.methods.get(m, M_COUNT);
            boolean loose = tree.node(n, LO) == 3;
            int a = tree.node(n, CB);
            for (int i = 0; i < (loose ? many - 1 : many) && a != 0; i++) {
                value(a);
                a = tree.node(a, NX);
            }
            if (loose) {
                codeRow(shape(heads.formal(m, many - 1, tree.node(n, CD), tree.node(n, HI))), a);
            }
        }

        private void codeCall(int n) {
            int m = tree.node(n, SY);
            int r = tree.node(n, CA);
            boolean still = tree.methods.has(m, M_FLAGS, STATIC);
            if (r != 0 && (tree.node(r, FL) & IS_EXP) != 0) {
                code(r);
                if (still) {
                    told.emit(O_POP);
                }
            } else if (!still) {
                put(O_LOAD, 0);
            }
            arguments(n);
            if (m < 5) {
                put(O_PUT, m);
                return;
            }
            if (m < BUILT_METHODS) {
                told.emit(O_NEXT);
                return;
            }
            if (still) {
                put(O_START, tree.methods.get(m, M_KIND));
            }
            put(tree.node(n, OP) == 2 ? O_CALLV : O_CALL, m);
            look(tree.methods.get(m, M_TYPE), tree.node(n, TY));
        }

        private void codeNew(int n) {
            int k = types.of(tree.node(n, TY));
            if (k >= BUILT_INS) {
                put(O_START, k);
            }
            put(O_NEW, k);
            if (k >= BUILT_INS) {
                told.emit(O_DUP);
                arguments(n);
                put(O_CALL, tree.node(n, SY));
            }
        }

        private void codePrefix(int n) {
            value(tree.node(n, CA));
            int wide = tree.node(n, XT) == LONG ? 1 : 0;
            switch (tree.node(n, OP)) {
                case T_MINUS: put(O_NEG, wide); break;
                case T_TILDE: told.emit(O_INV); break;
                case T_NOT: told.emit(O_NOT); break;
                default: break;
            }
        }

        private void codeBinary(int n) {
            int op = tree.node(n, OP);
            value(tree.node(n, CA));
            if (op == T_ANDAND || op == T_OROR) {
                int soon = jump(op == T_ANDAND ? O_JZ : O_JNZ);
                value(tree.node(n, CB));
                int end = jump(O_JUMP);
                land(soon);
                number(op == T_ANDAND ? 0 : 1);
                land(end);
                return;
            }
            value(tree.node(n, CB));
            if (op >= T_EQ && op <= T_GT) {
                put(O_CMP, op);
            } else {
                put(O_WORK, op, tree.node(n, XT) == LONG ? 1 : 0);
            }
        }

        // ---- assignments

        /** What of a target must be there ahead of its new value; read it, too, if its old one is wanted. */
        private void codeTarget(int e, boolean old) {
            switch (tree.node(e, KD)) {
                case E_ELEM:
                    value(tree.node(e, CA));
                    value(tree.node(e, CB));
                    if (old) {
                        told.emit(O_DUP2);
                        told.emit(O_ALOAD);
                    }
                    break;
                default:
                    if (tree.node(e, OP) == IS_LOCAL) {
                        if (old) {
                            put(O_LOAD, shift + tree.locals.get(tree.node(e, SY), L_BIT));
                        }
                    } else {
                        codeHolder(e);
                        if (old && !isStatic(e)) {
                            told.emit(O_DUP);
                        }
                        if (old) {
                            codeGet(e);
                        }
                    }
            }
        }

        /** Puts the value on the stack into a target; it stays there. */
        private void codeStore(int e) {
            if (tree.node(e, KD) == E_ELEM) {
                told.emit(O_ASTORE);
            } else if (tree.node(e, OP) == IS_LOCAL) {
                told.emit(O_DUP);
                put(O_STORE, shift + tree.locals.get(tree.node(e, SY), L_BIT));
            } else if (isStatic(e)) {
                put(O_START, tree.fields.get(tree.node(e, SY), F_KIND));
                put(O_PUTS, tree.fields.get(tree.node(e, SY), F_SLOT));
            } else {
                put(O_PUTF, tree.fields.get(tree.node(e, SY), F_SLOT));
            }
        }

        /** How many words of a target lie below its old value. */
        private int held(int e) {
            if (tree.node(e, KD) == E_ELEM) {
                return 2;
            }
            return tree.node(e, OP) == IS_LOCAL || isStatic(e) ? 0 : 1;
        }

        private void codeAssign(int n) {
            int e = tree.node(n, CA);
            int op = tree.node(n, OP);
            if (op == T_ASSIGN) {
                codeTarget(e, false);
                value(tree.node(n, CB));
                codeStore(e);
                return;
            }
            int t = tree.node(e, TY);
            int p = tree.node(n, XT);
            codeTarget(e, true);
            if (!types.isPrim(t)) {
                told.emit(O_UNBOX);
            }
            value(tree.node(n, CB));
            int sign = op - T_STARA >= 0 && op - T_STARA < BEHIND_ASSIGN.length ? BEHIND_ASSIGN[op - T_STARA] : T_PLUS;
            put(O_WORK, sign, p == LONG ? 1 : 0);
            giveBack(t);
            codeStore(e);
        }

        private void giveBack(int t) {
            int p = types.prim(t);
            if (p != BOOLEAN) {
                put(O_SHAPE, p);
            }
            if (!types.isPrim(t)) {
                put(O_BOX, p);
            }
        }

        private void codeCount(int n) {
            int e = tree.node(n, CA);
            int t = tree.node(e, TY);
            boolean later = tree.node(n, KD) == E_POSTINC;
            codeTarget(e, true);
            if (later) {
                told.emit(held(e) == 2 ? O_DUPX2 : held(e) == 1 ? O_DUPX1 : O_DUP);
            }
            if (!types.isPrim(t)) {
                told.emit(O_UNBOX);
            }
            number(1);
            put(O_WORK, tree.node(n, OP) == T_INC ? T_PLUS : T_MINUS, tree.node(n, XT) == LONG ? 1 : 0);
            giveBack(t);
            codeStore(e);
            if (later) {
                told.emit(O_POP);
            }
        }
    }

    /** Runs a text that is taken, with told steps and cells. No value stands on this program's own stack. */
    private static final class Machine {
        private static final int MOST_CELLS = 20000;
        private static final int MOST_OPEN = 60;
        private static final int BUCKETS = 2048;
        private static final int ENDED = 0;
        private static final int THROWN = 1;
        private static final int CUT = 2;
        private static final int FULL = 3;
        private static final int DEEP = 4;
        private static final int RUNNING = -1;

        private final Told told;
        private final long[] stack = new long[26000];
        private int sp;
        private int base;
        private int pc;
        private final long[] cells = new long[MOST_CELLS + 2];
        private final int[] shapes = new int[MOST_CELLS + 2];
        private final int[] boxChain = new int[MOST_CELLS + 2];
        private final int[] boxHeads = new int[BUCKETS * 2];
        private int runs;
        private final Rows frames = new Rows(MOST_OPEN + 2, 4, 0);
        private final int[] states = new int[ALL_KINDS];
        private final long[] statics = new long[121];
        private final Rows outs = new Rows(1000, 3, 0);
        private final int[] facts = new int[7];
        private final int[] given;
        private int givenCount;
        private int stepLimit;
        private int cellLimit;
        private int ending;
        private boolean ran;

        Machine(Told told, int[] given) {
            this.told = told;
            this.given = given;
        }

        void forget() {
            ran = false;
            outs.cut(0);
        }

        int runText(int steps, int cellsTold, int numbers) {
            stepLimit = steps;
            cellLimit = cellsTold;
            givenCount = numbers;
            begin();
            for (long i = 0; i < 4000000000L && ending == RUNNING; i++) {
                doOne();
            }
            facts[0] = ending;
            ran = true;
            return ending;
        }

        private void begin() {
            runs++;
            sp = 0;
            base = 0;
            pc = 0;
            ending = RUNNING;
            outs.cut(0);
            frames.cut(0);
            frames.add();
            frames.put(0, 2, MANY);
            for (int i = 0; i < facts.length; i++) {
                facts[i] = 0;
            }
            for (int i = 0; i < states.length; i++) {
                states[i] = 0;
            }
            for (int i = 0; i < statics.length; i++) {
                statics[i] = told.statics.wide(i, 0);
            }
        }

        private void push(long v) {
            if (sp >= 0 && sp < stack.length) {
                stack[sp] = v;
                sp++;
            }
        }

        private long pop() {
            if (sp <= 0) {
                return 0;
            }
            sp--;
            return stack[sp];
        }

        private long peek(int below) {
            int i = sp - 1 - below;
            return i >= 0 && i < stack.length ? stack[i] : 0;
        }

        private int word() {
            int w = told.codeAt(pc);
            pc++;
            return w;
        }

        private long local(int slot) {
            int i = base + slot;
            return i >= 0 && i < stack.length ? stack[i] : 0;
        }

        private void setLocal(int slot, long v) {
            int i = base + slot;
            if (i >= 0 && i < stack.length) {
                stack[i] = v;
            }
        }

        private void step() {
            if (facts[2] >= stepLimit) {
                ending = CUT;
            } else {
                facts[2]++;
            }
        }

        private void doOne() {
            int op = word();
            switch (op) {
                case O_HALT: ending = ENDED; break;
                case O_STEP: step(); break;
                case O_PUSH: {
                    long low = word() & 0xFFFFFFFFL;
                    push(((long) word() << 32) | low);
                    break;
                }
                case O_LOAD: push(local(word())); break;
                case O_STORE: {
                    int slot = word();
                    setLocal(slot, pop());
                    break;
                }
                case O_POP: pop(); break;
                case O_DUP: push(peek(0)); break;
                case O_DUP2:
                    push(peek(1));
                    push(peek(1));
                    break;
                case O_DUPX1: dig(1); break;
                case O_DUPX2: dig(2); break;
                case O_JUMP: pc = word(); break;
                case O_JZ:
                case O_JNZ: {
                    int goal = word();
                    if ((pop() == 0) == (op == O_JZ)) {
                        pc = goal;
                    }
                    break;
                }
                case O_JSR: {
                    int slot = word();
                    int goal = word();
                    setLocal(slot, pc);
                    pc = goal;
                    break;
                }
                case O_BACK: pc = (int) local(word()); break;
                case O_CASE: {
                    int wanted = word();
                    int goal = word();
                    if (peek(0) == wanted) {
                        pop();
                        pc = goal;
                    }
                    break;
                }
                default:
                    if (op >= O_WORK && op <= O_IS) {
                        doNumbers(op);
                    } else {
                        doThings(op);
                    }
            }
        }

        /** The value on top goes under so many others, too. */
        private void dig(int under) {
            long v = pop();
            long a = pop();
            long b = under == 2 ? pop() : 0;
            push(v);
            if (under == 2) {
                push(b);
            }
            push(a);
            push(v);
        }

        private void doNumbers(int op) {
            switch (op) {
                case O_WORK: {
                    int sign = word();
                    boolean wide = word() == 1;
                    long b = pop();
                    long a = pop();
                    if ((sign == T_SLASH || sign == T_PERCENT) && b == 0) {
                        raise(ARITHMETIC);
                    } else {
                        push(Bodies.worked(sign, wide, a, b));
                    }
                    break;
                }
                case O_CMP: {
                    int sign = word();
                    long b = pop();
                    long a = pop();
                    push(Bodies.compared(sign, a, b) ? 1 : 0);
                    break;
                }
                case O_NEG: {
                    boolean wide = word() == 1;
                    long v = -pop();
                    push(wide ? v : (int) v);
                    break;
                }
                case O_INV: push(~pop()); break;
                case O_NOT: push(1 - pop()); break;
                case O_SHAPE: {
                    int prim = word();
                    push(Bodies.shaped(pop(), prim));
                    break;
                }
                default: doBoxes(op);
            }
        }

        private void doBoxes(int op) {
            switch (op) {
                case O_BOX: {
                    int prim = word();
                    box(prim, pop());
                    break;
                }
                case O_UNBOX: {
                    int a = address(pop());
                    if (a == 0) {
                        raise(NULLPOINTER);
                    } else {
                        push(cells[a]);
                    }
                    break;
                }
                case O_CHECK: {
                    int shape = word();
                    int a = address(peek(0));
                    if (a != 0 && !isOf(shapes[a], shape)) {
                        raise(CASTING);
                    }
                    break;
                }
                default: {
                    int shape = word();
                    int a = address(pop());
                    push(a != 0 && isOf(shapes[a], shape) ? 1 : 0);
                }
            }
        }

        private int address(long v) {
            return v > 0 && v <= facts[3] ? (int) v : 0;
        }

        /** Whether a thing of one shape is one of another shape, too. */
        private boolean isOf(int shape, int wanted) {
            int dims = shape & DIM_MOST;
            int more = wanted & DIM_MOST;
            int from = shape >> DIM_BITS;
            int to = wanted >> DIM_BITS;
            if (shape == wanted) {
                return true;
            }
            if (dims < more) {
                return false;
            }
            if (dims > more) {
                return to == 8 + OBJECT;
            }
            return from >= 8 && to >= 8 && told.below.get(from - 8, to - 8) == 1;
        }

        private void doThings(int op) {
            switch (op) {
                case O_GETF:
                case O_PUTF: doField(op); break;
                case O_GETS: {
                    int i = word();
                    push(i >= 0 && i < statics.length ? statics[i] : 0);
                    break;
                }
                case O_PUTS: {
                    int i = word();
                    if (i >= 0 && i < statics.length) {
                        statics[i] = peek(0);
                    }
                    break;
                }
                case O_START: start(word()); break;
                case O_ALOAD:
                case O_ASTORE: doElement(op); break;
                case O_LENGTH: {
                    int a = address(pop());
                    if (a == 0) {
                        raise(NULLPOINTER);
                    } else {
                        push(cells[a + 1]);
                    }
                    break;
                }
                case O_NEW: {
                    int k = word();
                    int a = make(told.shapes.get(k, 0), (8 + k) << DIM_BITS);
                    push(a);
                    break;
                }
                case O_ARRAY: doArray(); break;
                case O_NULLCHECK:
                    if (peek(0) == 0) {
                        raise(NULLPOINTER);
                    }
                    break;
                case O_PUT: putOut(word()); break;
                case O_NEXT: {
                    int i = facts[6];
                    facts[6]++;
                    push(i < givenCount && i < given.length ? given[i] : 0);
                    break;
                }
                default: doBodies(op);
            }
        }

        private void doBodies(int op) {
            switch (op) {
                case O_CALL: open(word()); break;
                case O_CALLV: dispatch(word()); break;
                case O_RET: close(); break;
                case O_RETV: {
                    long v = pop();
                    close();
                    push(v);
                    break;
                }
                case O_THROW: {
                    int a = address(pop());
                    if (a == 0) {
                        raise(NULLPOINTER);
                    } else {
                        unwind(a);
                    }
                    break;
                }
                case O_ENDSTART:
                    states[Math.max(0, Math.min(ALL_KINDS - 1, -1 - frames.get(frames.size() - 1, 2)))] = 2;
                    close();
                    break;
                default: ending = ENDED;
            }
        }

        private void doField(int op) {
            int slot = word();
            long v = op == O_PUTF ? pop() : 0;
            int a = address(pop());
            if (a == 0) {
                raise(NULLPOINTER);
            } else if (a + slot < cells.length) {
                if (op == O_PUTF) {
                    cells[a + slot] = v;
                }
                push(cells[a + slot]);
            }
        }

        private void doElement(int op) {
            long v = op == O_ASTORE ? pop() : 0;
            long index = pop();
            int a = address(pop());
            if (a == 0) {
                raise(NULLPOINTER);
                return;
            }
            if (index < 0 || index >= cells[a + 1]) {
                raise(INDEX);
                return;
            }
            int at = Math.min(a + 2 + (int) index, cells.length - 1);
            if (op == O_ASTORE) {
                int part = shapes[a] - 1;
                boolean thing = (part & DIM_MOST) > 0 || part >> DIM_BITS >= 8;
                int b = thing ? address(v) : 0;
                if (b != 0 && !isOf(shapes[b], part)) {
                    raise(STORE);
                    return;
                }
                cells[at] = v;
            }
            push(cells[at]);
        }

        /** Takes so many cells; 0, and the run is FULL, if there aren't. */
        private int make(long size, int shape) {
            if (facts[3] + size > cellLimit || ending != RUNNING) {
                if (ending == RUNNING) {
                    ending = FULL;
                }
                return 0;
            }
            int a = facts[3] + 1;
            for (int i = 0; i < size; i++) {
                cells[a + i] = 0;
                shapes[a + i] = 0;
            }
            shapes[a] = shape;
            facts[3] += (int) size;
            return a;
        }

        private void doArray() {
            int shape = word();
            int many = Math.min(word(), 4);
            boolean wrong = false;
            for (int i = 0; i < many; i++) {
                wrong = wrong || peek(i) < 0;
            }
            if (wrong) {
                raise(NEGATIVE);
                return;
            }
            int first = sp - many;
            int a = makeRow(shape, first, many);
            sp = Math.max(0, first);
            push(a);
        }

        /** An array and, one by one, those in it; many is how many sizes are told. */
        private int makeRow(int shape, int first, int many) {
            long length = first >= 0 && first < stack.length ? stack[first] : 0;
            int a = make(2 + length, shape);
            if (a == 0) {
                return 0;
            }
            cells[a + 1] = length;
            for (int i = 0; i < length && many > 1 && ending == RUNNING; i++) {
                cells[a + 2 + i] = makeRow(shape - 1, first + 1, many - 1);
            }
            return a;
        }

        /** Boxes of one class with one value are one thing. */
        private void box(int prim, long v) {
            int shape = (8 + BOOLEAN_BOX + prim - BOOLEAN) << DIM_BITS;
            int h = ((int) (v ^ (v >>> 32)) * 31 + prim) & (BUCKETS - 1);
            if (boxHeads[BUCKETS + h] != runs) {
                boxHeads[BUCKETS + h] = runs;
                boxHeads[h] = 0;
            }
            int a = boxHeads[h];
            for (int i = 0; i < MANY && a > 0 && a < boxChain.length; i++) {
                if (shapes[a] == shape && cells[a] == v) {
                    push(a);
                    return;
                }
                a = boxChain[a];
            }
            a = make(1, shape);
            if (a != 0) {
                cells[a] = v;
                boxChain[a] = boxHeads[h];
                boxHeads[h] = a;
                push(a);
            }
        }

        private void putOut(int kind) {
            long v = pop();
            int a = address(v);
            if (kind == 4) {
                v = a == 0 ? 0 : (shapes[a] & DIM_MOST) > 0 ? 99 : 100 + told.shapes.get((shapes[a] >> DIM_BITS) - 8, 2);
            }
            int row = outs.add();
            outs.put(row, 0, kind);
            outs.putWide(row, 1, v);
            facts[4] = outs.size();
        }

        // ---- bodies

        private int openBodies() {
            return frames.size() - 1;
        }

        /** Opens a body: it returns to where the machine stands now. */
        private boolean enter(int owner, int newBase, int size) {
            if (openBodies() >= MOST_OPEN) {
                ending = DEEP;
                return false;
            }
            int row = frames.add();
            frames.put(row, 0, pc);
            frames.put(row, 1, base);
            frames.put(row, 2, owner);
            frames.put(row, 3, size);
            base = Math.max(0, newBase);
            sp = base + size;
            facts[5] = Math.max(facts[5], openBodies());
            return true;
        }

        private void close() {
            int row = frames.size() - 1;
            sp = base;
            pc = frames.get(row, 0);
            base = frames.get(row, 1);
            frames.cut(row);
        }

        private void dispatch(int m) {
            int argc = told.bodies.get(m, 2);
            int a = address(peek(argc - 1));
            if (a == 0) {
                raise(NULLPOINTER);
                return;
            }
            int k = (shapes[a] >> DIM_BITS) - 8 - BUILT_INS;
            open(told.serving.get(k, m - BUILT_METHODS) + BUILT_METHODS);
        }

        private void open(int m) {
            int argc = told.bodies.get(m, 2);
            int many = told.bodies.get(m, 4);
            if (argc > many && address(peek(argc - 1)) == 0) {
                raise(NULLPOINTER);
                return;
            }
            for (int i = 0; i < many; i++) {
                int wanted = told.formalAt(told.bodies.get(m, 3) + i);
                boolean thing = (wanted & DIM_MOST) > 0 || wanted >> DIM_BITS >= 8;
                int a = thing ? address(peek(many - 1 - i)) : 0;
                if (a != 0 && !isOf(shapes[a], wanted)) {
                    raise(CASTING);
                    return;
                }
            }
            if (enter(m, sp - argc, told.bodies.get(m, 1))) {
                pc = told.bodies.get(m, 0);
                step();
            }
        }

        private void start(int k) {
            if (k < BUILT_INS || k >= ALL_KINDS) {
                return;
            }
            if (states[k] == 3) {
                raise(NODEFINITION);
            } else if (states[k] == 0 && enter(-1 - k, sp, 1)) {
                states[k] = 1;
                pc = told.shapes.get(k, 1);
            }
        }

        // ---- what is thrown

        private int kindOf(int a) {
            return (shapes[a] >> DIM_BITS) - 8;
        }

        private void raise(int kind) {
            int a = make(1, (8 + kind) << DIM_BITS);
            if (a != 0) {
                unwind(a);
            }
        }

        /** Goes out of bodies till one has a trap for the thing. */
        private void unwind(int thing) {
            int a = thing;
            for (int round = 0; round <= MOST_OPEN + 1; round++) {
                int row = frames.size() - 1;
                int goal = trapFor(a);
                if (goal >= 0) {
                    sp = base + frames.get(row, 3);
                    push(a);
                    pc = goal;
                    return;
                }
                if (row <= 0) {
                    ending = THROWN;
                    facts[1] = told.shapes.get(kindOf(a), 2);
                    return;
                }
                int owner = frames.get(row, 2);
                close();
                if (owner < 0) {
                    states[Math.max(0, Math.min(ALL_KINDS - 1, -1 - owner))] = 3;
                    if (told.below.get(kindOf(a), ERROR) == 0) {
                        a = make(1, (8 + INITIALIZER) << DIM_BITS);
                        if (a == 0) {
                            return;
                        }
                    }
                }
            }
        }

        private int trapFor(int a) {
            for (int i = 0; i < told.traps.size(); i++) {
                int kind = told.traps.get(i, 3);
                boolean inside = pc - 1 >= told.traps.get(i, 0) && pc - 1 < told.traps.get(i, 1);
                if (inside && (kind == NONE || told.below.get(kindOf(a), kind) == 1)) {
                    return told.traps.get(i, 2);
                }
            }
            return -1;
        }
    }

    private final int[] tape = new int[TAPE];
    private int fed;
    private int lastFault;
    private int lastPlace;
    private boolean judged;
    private final int[] given = new int[200];
    private int givenCount;
    private final Words words = new Words();
    private final Tree tree = new Tree();
    private final Types types = new Types(tree);
    private final Parser parser = new Parser(words, tree);
    private final Heads heads = new Heads(tree, types);
    private final Bodies bodies = new Bodies(tree, types, heads);
    private final Flow flow = new Flow(tree, types, heads);
    private final Told told = new Told();
    private final Coder coder = new Coder(tree, types, heads, told);
    private final Machine machine = new Machine(told, given);

    public FrontHouse() {
    }

    public int feed(int a, int b, int c, int d, int e) {
        if (fed + 20 > TAPE) {
            return NONE;
        }
        lay(a);
        lay(b);
        lay(c);
        lay(d);
        lay(e);
        return fed;
    }

    private void lay(int number) {
        for (int i = 24; i >= 0; i -= 8) {
            if (fed < TAPE) {
                tape[fed] = number >>> i & 255;
                fed++;
            }
        }
    }

    public int judge(int n) {
        if (n < 0 || n > fed) {
            return NONE;
        }
        words.take(tape, n);
        fed = 0;
        judged = true;
        lastFault = findFault(n);
        if (lastFault == 0) {
            lastPlace = NONE;
            coder.write();
            machine.forget();
        }
        return lastFault;
    }

    /** The text's fault; its place is left in lastPlace. */
    private int findFault(int n) {
        tree.clear(n);
        parser.read();
        if (parser.faultFound() != 0) {
            lastPlace = parser.faultPlace();
            return parser.faultFound();
        }
        types.clear();
        for (int stage = 0; stage < 5 && tree.worst == 0; stage++) {
            judgeStage(stage);
        }
        lastPlace = tree.spot;
        return tree.worst;
    }

    private void judgeStage(int stage) {
        switch (stage) {
            case 0: heads.judgeNames(); break;
            case 1: heads.judgeShapes(); break;
            case 2: heads.judgeMembers(); break;
            case 3: bodies.judgeBodies(); break;
            default:
                flow.judgeFlow();
                flow.judgeAssigned();
        }
    }

    public int fault(int what) {
        if (!judged || what < 0 || what > 1) {
            return NONE;
        }
        return what == 0 ? lastFault : lastPlace;
    }

    public int count(int what) {
        if (what < 0 || what >= told.counts.length) {
            return NONE;
        }
        return told.counts[what];
    }

    public int kind(int i, int what) {
        return entry(told.kinds, i, what, 7);
    }

    public int method(int i, int what) {
        return entry(told.methods, i, what, 6);
    }

    public int expression(int i, int what) {
        return entry(told.exps, i, what, 6);
    }

    public long constant(int i) {
        return told.exps.wide(i, 6);
    }

    public int call(int i, int what) {
        return entry(told.calls, i, what, 4);
    }

    private static int entry(Rows rows, int i, int what, int most) {
        if (i < 0 || i >= rows.size() || what < 0 || what >= most) {
            return NONE;
        }
        return rows.get(i, what);
    }

    public int serves(int k, int m) {
        return entry(told.serving, k, m, told.methods.size());
    }

    public int give(int v) {
        if (givenCount >= given.length) {
            return NONE;
        }
        given[givenCount] = v;
        givenCount++;
        return givenCount;
    }

    public int run(int steps, int cells) {
        if (steps < 1 || steps > 50000 || cells < 1 || cells > 20000 || !told.taken || !told.starts) {
            return NONE;
        }
        return machine.runText(steps, cells, givenCount);
    }

    public int about(int what) {
        if (!machine.ran || what < 0 || what >= machine.facts.length) {
            return NONE;
        }
        return machine.facts[what];
    }

    public long out(int i, int what) {
        if (what == 0) {
            return machine.outs.get(i, 0);
        }
        return what == 1 ? machine.outs.wide(i, 1) : 0;
    }
}
