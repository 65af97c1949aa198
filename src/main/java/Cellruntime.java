import java.util.Arrays;

/**
 * A runtime of checked code. The document calls its things TYPES, EXPRESSIONS, METHODS, FRAMES and so on; the
 * comments here use its words.
 *
 * <p>What is asked and told from outside stands first; then the classes that do it: {@link Pool} (expressions),
 * {@link Types}, {@link Methods}, {@link Need} and {@link Checker} (what is right), {@link Frame}, {@link Frames},
 * {@link Memory}, {@link Reach}, {@link Words}, {@link Faults} and {@link Machine} (running).
 */
public final class Cellruntime {
    private static final int NONE = -1;

    // What an expression is made of; the first four of these are the numbers of the first four expressions, too.
    private static final int INT = 0, OBJECT = 1, FAULT = 2, T = 3, NAMED = 4, APPLIED = 5, ROW_OF = 6, PLACE_OF = 7;

    private static final int CLASS = 0, STRUCT = 1, INTERFACE = 2, DELEGATE = 3;
    private static final int STATIC = 0, OWN = 1, VIRTUAL = 2;
    private static final int CATCH = 0, FILTER = 1, FINALLY = 2, RESCUE = 3;
    private static final int TRY = 0, BLOCK = 1, TEST = 2, PARTS = 3;
    private static final int DONE = 0, UNCAUGHT = 1, CUT = 2;

    private static final int MOST_TYPES = 12, MOST_EXPRS = 48, MOST_DEEP = 3, MOST_CONTRACTS = 2;
    private static final int MOST_FIELDS = 24, MOST_FIELDS_OF_TYPE = 4, MOST_STRUCT_CELLS = 8;
    private static final int MOST_METHODS = 24, MOST_NAME = 9, MOST_GIVEN = 3, MOST_LOCALS = 4;
    private static final int MOST_LINES = 40, MOST_HANDLERS = 4, MOST_STACK = 8;
    private static final int MOST_FRAMES = 8, MOST_STEPS = 600, MOST_PINS = 4, MOST_ELEMENTS = 12;
    private static final int LEAST_LIMIT = 20, FIRST_LIMIT = 120, MOST_LIMIT = 200;
    private static final int MOST_NUMBER = 9999;

    // A bound of loops that end by themselves, far above what any run can need.
    private static final int ENOUGH = 1000000;

    // What ofMethod() is asked, in its order.
    private static final int TYPE_OF = 0, NAME = 1, MODE = 2, RESULT = 3, GIVEN = 4, LOCALS = 5, LINES = 6, HANDLERS = 7;
    private static final int METHOD_FACTS = 8;

    // What ofHandler() is asked, in its order.
    private static final int KIND = 0, FROM = 1, TO = 2, AT_PLACE = 3, END_PLACE = 4, WITH = 5;
    private static final int HANDLER_FACTS = 6;

    // The reasons with which an instruction throws, and the errors of a method.
    private static final int IS_NULL = 1, NO_PLACE = 2, NOT_OF = 3, BY_ZERO = 4, NO_ROOM = 5, NO_FRAME = 6, NOT_IN_ROW = 7,
        NO_LENGTH = 8;
    private static final int BAD_NUMBER = 1, BAD_DEPTH = 2, BAD_ENTRY = 3, BAD_MERGE = 4, BAD_WAY = 5, BAD_END = 6,
        BAD_NEAR = 7, BAD_HANDLER = 8, NOT_WHOLE = 9;

    private static final int NOP = 0, NUM = 1, NULL = 2, ARG = 3, SETARG = 4, LOC = 5, SETLOC = 6, ARGP = 7,
        LOCP = 8, ADD = 9, SUB = 10, MUL = 11, DIV = 12, REM = 13, EQ = 14, LT = 15, GO = 16, IF = 17,
        IFNOT = 18, DUP = 19, POP = 20, MAKE = 21, CALL = 22, CALLV = 23, CALLON = 24, RET = 25, GET = 26,
        SET = 27, GETP = 28, GETS = 29, SETS = 30, GETSP = 31, BOX = 32, UNBOX = 33, UNBOXA = 34, CAST = 35,
        ISA = 36, ROW = 37, LEN = 38, AT = 39, PUT = 40, ATP = 41, LOAD = 42, STORE = 43, INIT = 44,
        BIND = 45, INVOKE = 46, THROW = 47, LEAVE = 48, ENDFINALLY = 49, ENDFILTER = 50, OUT = 51,
        CELLS = 52, PIN = 53, UNPIN = 54, GC = 55, CODEOF = 56, SETCODE = 57;
    private static final int LAST_OPERATION = SETCODE;
    private static final String NAMES = "nop num null arg setarg loc setloc argp locp add sub mul div rem eq lt go if ifnot dup pop make call callv callon ret get set getp gets sets getsp box unbox unboxa cast isa row len at put atp load store init bind invoke throw leave endfinally endfilter out cells pin unpin gc codeof setcode ";

    // What the two numbers of an operation are.
    private static final int PLAIN = 0, WITH_A = 1, WITH_X = 2, WITH_METHOD = 3, WITH_FIELD = 4;
    private static final int[] FORM = {
        0, 1, 0, 1, 1, 1, 1, 1, 1, 0, 0, 0, 0, 0, 0, 0, 1, 1, 1, 0, 0,
        2, 3, 3, 3, 0, 4, 4, 4, 4, 4, 4, 2, 2, 2, 2, 2,
        2, 0, 2, 2, 2, 2, 2, 2, 3, 2, 0, 1, 0, 0, 0, 0, 0, 0, 0, 0, 0
    };

    // The samples as the document tells them: each act, then its numbers. (T type, X expr, I implement, F field, M method,
    // P param, L local, C code, H handler, W handles.)
    private static final int TY = 0, EX = 1, IM = 2, FI = 3, ME = 4, PA = 5, LO = 6, CO = 7, HA = 8, WI = 9;
    private static final int[] SAMPLE_0 = {
        TY, 1, 0, -1, -1, EX, 0, 0, 0, FI, 0, 0, 0, FI, 0, 0, 0, TY, 0, 0, -1, 1, ME, 0, 1, 1, -1, PA, 0, 0,
        CO, 3, 0, 0, CO, 3, 0, 0, CO, 26, 0, 4, CO, 3, 1, 0, CO, 9, 0, 0, CO, 27, 0, 4, CO, 3, 0, 0, CO, 3, 0, 0,
        CO, 26, 1, 4, CO, 1, 1, 0, CO, 9, 0, 0, CO, 27, 1, 4, CO, 25, 0, 0, ME, 1, 0, 0, 0, PA, 1, 0, LO, 1, 4,
        LO, 1, 0, CO, 1, 0, 0, CO, 6, 1, 0, CO, 5, 1, 0, CO, 3, 0, 0, CO, 15, 0, 0, CO, 18, 16, 0, CO, 8, 0, 0,
        CO, 5, 1, 0, CO, 5, 1, 0, CO, 11, 0, 0, CO, 22, 0, 4, CO, 5, 1, 0, CO, 1, 1, 0, CO, 9, 0, 0, CO, 6, 1, 0,
        CO, 16, 2, 0, CO, 8, 0, 0, CO, 26, 0, 4, CO, 51, 0, 0, CO, 8, 0, 0, CO, 26, 1, 4, CO, 25, 0, 0
    };
    private static final int[] SAMPLE_1 = {
        TY, 2, 0, -1, -1, EX, 0, 0, 0, ME, 0, 2, 2, 0, TY, 0, 0, -1, 1, EX, 0, 1, 0, IM, 1, 4, FI, 1, 0, 0,
        ME, 1, 2, 2, 0, CO, 3, 0, 0, CO, 26, 0, 5, CO, 25, 0, 0, TY, 0, 0, -1, 5, EX, 0, 2, 0, ME, 2, 2, 2, 0,
        CO, 3, 0, 0, CO, 22, 1, 5, CO, 1, 100, 0, CO, 9, 0, 0, CO, 25, 0, 0, EX, 2, 4, 0, TY, 0, 0, -1, 1,
        ME, 3, 0, 0, 0, PA, 3, 0, LO, 3, 7, CO, 1, 2, 0, CO, 37, 4, 0, CO, 6, 0, 0, CO, 5, 0, 0, CO, 1, 0, 0,
        CO, 21, 5, 0, CO, 19, 0, 0, CO, 3, 0, 0, CO, 27, 0, 5, CO, 40, 4, 0, CO, 5, 0, 0, CO, 1, 1, 0, CO, 21, 6, 0,
        CO, 19, 0, 0, CO, 3, 0, 0, CO, 1, 1, 0, CO, 9, 0, 0, CO, 27, 0, 5, CO, 40, 4, 0, CO, 5, 0, 0, CO, 1, 0, 0,
        CO, 39, 4, 0, CO, 23, 0, 4, CO, 51, 0, 0, CO, 5, 0, 0, CO, 1, 1, 0, CO, 39, 4, 0, CO, 23, 0, 4,
        CO, 19, 0, 0, CO, 51, 0, 0, CO, 25, 0, 0
    };
    private static final int[] SAMPLE_2 = {
        TY, 0, 0, -1, 1, ME, 0, 0, 0, 0, PA, 0, 0, LO, 0, 0, CO, 1, 10, 0, CO, 3, 0, 0, CO, 12, 0, 0, CO, 51, 0, 0,
        CO, 48, 8, 0, CO, 1, 7, 0, CO, 51, 0, 0, CO, 49, 0, 0, CO, 48, 13, 0, CO, 19, 0, 0, CO, 56, 0, 0,
        CO, 6, 0, 0, CO, 48, 13, 0, CO, 5, 0, 0, CO, 25, 0, 0, HA, 2, 0, 5, 5, 8, HA, 0, 0, 9, 9, 13
    };
    private static final int[] SAMPLE_3 = {
        TY, 0, 1, -1, 1, EX, 1, 0, 3, FI, 0, 3, 0, FI, 0, 0, 1, ME, 0, 1, 1, 3, CO, 3, 0, 0, CO, 26, 0, 4,
        CO, 25, 0, 0, ME, 0, 2, 1, -1, PA, 1, 3, CO, 3, 0, 0, CO, 3, 1, 0, CO, 27, 0, 4, CO, 29, 1, 4, CO, 1, 1, 0,
        CO, 9, 0, 0, CO, 30, 1, 4, CO, 25, 0, 0, EX, 1, 0, 0, EX, 1, 0, 1, TY, 0, 0, -1, 1, ME, 1, 0, 0, 0,
        PA, 2, 0, LO, 2, 5, LO, 2, 6, CO, 21, 5, 0, CO, 6, 0, 0, CO, 21, 6, 0, CO, 6, 1, 0, CO, 5, 0, 0,
        CO, 3, 0, 0, CO, 22, 1, 5, CO, 5, 1, 0, CO, 5, 0, 0, CO, 22, 1, 6, CO, 5, 1, 0, CO, 1, 5, 0, CO, 32, 0, 0,
        CO, 22, 1, 6, CO, 5, 1, 0, CO, 22, 0, 6, CO, 34, 0, 0, CO, 51, 0, 0, CO, 29, 1, 5, CO, 51, 0, 0,
        CO, 29, 1, 6, CO, 51, 0, 0, CO, 5, 0, 0, CO, 22, 0, 5, CO, 25, 0, 0
    };
    private static final int[] SAMPLE_4 = {
        TY, 3, 0, -1, -1, EX, 0, 0, 0, ME, 0, 0, 2, 0, PA, 0, 0, TY, 0, 0, -1, 1, EX, 0, 1, 0, FI, 1, 0, 0,
        ME, 1, 3, 2, 0, PA, 1, 0, CO, 3, 0, 0, CO, 26, 0, 5, CO, 3, 1, 0, CO, 9, 0, 0, CO, 25, 0, 0, ME, 1, 4, 0, 0,
        PA, 2, 0, CO, 3, 0, 0, CO, 1, 2, 0, CO, 11, 0, 0, CO, 25, 0, 0, ME, 1, 5, 0, 0, PA, 3, 0, LO, 3, 5,
        LO, 3, 4, CO, 21, 5, 0, CO, 6, 0, 0, CO, 5, 0, 0, CO, 1, 30, 0, CO, 27, 0, 5, CO, 5, 0, 0, CO, 45, 1, 4,
        CO, 6, 1, 0, CO, 5, 1, 0, CO, 3, 0, 0, CO, 46, 4, 0, CO, 51, 0, 0, CO, 45, 2, 4, CO, 3, 0, 0, CO, 46, 4, 0,
        CO, 25, 0, 0
    };
    private static final int[] SAMPLE_5 = {
        TY, 0, 0, -1, 1, EX, 2, 0, 0, ME, 0, 0, 0, 0, PA, 0, 0, LO, 0, 4, LO, 0, 0, LO, 0, 4, CO, 1, 3, 0,
        CO, 37, 0, 0, CO, 6, 0, 0, CO, 5, 0, 0, CO, 53, 0, 0, CO, 1, 0, 0, CO, 6, 1, 0, CO, 5, 1, 0, CO, 3, 0, 0,
        CO, 15, 0, 0, CO, 18, 23, 0, CO, 1, 10, 0, CO, 37, 0, 0, CO, 6, 2, 0, CO, 5, 2, 0, CO, 1, 0, 0, CO, 5, 1, 0,
        CO, 40, 0, 0, CO, 5, 1, 0, CO, 1, 1, 0, CO, 9, 0, 0, CO, 6, 1, 0, CO, 16, 7, 0, CO, 52, 0, 0, CO, 51, 0, 0,
        CO, 54, 0, 0, CO, 2, 0, 0, CO, 6, 0, 0, CO, 55, 0, 0, CO, 52, 0, 0, CO, 51, 0, 0, CO, 5, 1, 0, CO, 25, 0, 0
    };
    private static final int[] SAMPLE_6 = {
        TY, 0, 0, -1, 1, EX, 0, 0, 0, ME, 0, 1, 0, -1, PA, 0, 0, CO, 3, 0, 0, CO, 17, 7, 0, CO, 21, 2, 0,
        CO, 19, 0, 0, CO, 1, 9, 0, CO, 57, 0, 0, CO, 47, 0, 0, CO, 3, 0, 0, CO, 1, 1, 0, CO, 10, 0, 0, CO, 22, 0, 4,
        CO, 48, 15, 0, CO, 3, 0, 0, CO, 51, 0, 0, CO, 49, 0, 0, CO, 25, 0, 0, HA, 3, 7, 12, 12, 15, ME, 0, 0, 0, 0,
        PA, 1, 0, LO, 1, 0, CO, 3, 0, 0, CO, 22, 0, 4, CO, 48, 10, 0, CO, 56, 0, 0, CO, 1, 9, 0, CO, 14, 0, 0,
        CO, 50, 0, 0, CO, 56, 0, 0, CO, 6, 0, 0, CO, 48, 10, 0, CO, 5, 0, 0, CO, 25, 0, 0, HA, 1, 0, 3, 7, 10, WI, 3
    };
    private static final int[] SAMPLE_7 = {
        TY, 2, 0, -1, -1, EX, 0, 0, 0, ME, 0, 1, 2, -1, TY, 1, 0, -1, -1, EX, 0, 1, 0, IM, 1, 4, FI, 1, 0, 0,
        ME, 1, 1, 2, -1, CO, 3, 0, 0, CO, 3, 0, 0, CO, 26, 0, 5, CO, 1, 1, 0, CO, 9, 0, 0, CO, 27, 0, 5,
        CO, 25, 0, 0, TY, 0, 1, 4, 1, EX, 1, 2, 3, FI, 2, 3, 0, ME, 2, 2, 1, -1, CO, 3, 0, 0, CO, 28, 1, 6,
        CO, 24, 0, 4, CO, 25, 0, 0, EX, 1, 2, 5, TY, 0, 0, -1, 1, ME, 3, 0, 0, 0, PA, 3, 0, LO, 3, 7, LO, 3, 5,
        LO, 3, 4, CO, 21, 7, 0, CO, 6, 0, 0, CO, 5, 0, 0, CO, 22, 2, 7, CO, 5, 0, 0, CO, 22, 2, 7, CO, 5, 0, 0,
        CO, 26, 1, 7, CO, 26, 0, 5, CO, 51, 0, 0, CO, 8, 1, 0, CO, 3, 0, 0, CO, 27, 0, 5, CO, 5, 1, 0, CO, 32, 5, 0,
        CO, 35, 4, 0, CO, 6, 2, 0, CO, 5, 2, 0, CO, 23, 0, 4, CO, 5, 2, 0, CO, 34, 5, 0, CO, 26, 0, 5, CO, 51, 0, 0,
        CO, 5, 1, 0, CO, 26, 0, 5, CO, 25, 0, 0
    };

    // What house() counts by itself: runs, and those of each END behind them.
    private static final int RUNS = 0, HOUSE_LIMIT = 4, HOUSE_SHARED = 5, HOUSE_KNOCKS = 6, HOUSE_RIGHT = 7;
    private static final int RUN_FACTS = 5;

    private final Pool pool = new Pool();
    private final Types types = new Types(pool);
    private final Methods methods = new Methods(types);
    private final Checker checker = new Checker(methods);
    private final Machine runner = new Machine(methods);
    private final Machine walker = new Machine(methods);
    private final StringBuilder text = new StringBuilder();
    private final int[] last = new int[RUN_FACTS];
    private final int[] first = new int[RUN_FACTS + MOST_STEPS];
    private final int[] runs = new int[4];
    private String lastOut = "";
    private boolean walks;
    private int beforeWalk;
    private int limit = FIRST_LIMIT;
    private boolean areShared = true;
    private int knocks;
    private long sum;

    public Cellruntime() {
        Arrays.fill(last, NONE);
    }

    // ---- what is made

    public int type(int kind, boolean isOpen, int bound, int base) throws IllegalArgumentException {
        if (kind < CLASS || kind > DELEGATE) throw new IllegalArgumentException();
        if (types.many == MOST_TYPES) return -2;
        if (kind == STRUCT && isOpen) return -3;
        if (bound != NONE && !(isOpen && types.isFit(bound, NONE) && types.kindOf(bound) == INTERFACE)) return -4;
        types.layType(kind, isOpen, bound, base);
        if (kind != CLASS && base != NONE) return -5;
        if (kind == CLASS) {
            if (!types.isFit(base, types.many)) return -5;
            if (base != OBJECT && base != FAULT && types.kindOf(base) != CLASS) return -5;
        }
        changed();
        return types.addType();
    }

    public int expr(int what, int of, int argument) throws IllegalArgumentException {
        if (what < 0 || what > 3) throw new IllegalArgumentException();
        boolean isOfType = what <= 1;
        if (isOfType ? !types.isType(of) : !pool.isNumber(of)) return -2;
        if (what == 1 && !pool.isNumber(argument)) return -2;
        if (isOfType && types.isOpen(of) != (what == 1)) return -3;
        int inside = what == 1 ? argument : of;
        if (what != 0 && pool.sort(inside) == PLACE_OF) return -4;
        if (what != 0 && pool.deepOf(inside) >= MOST_DEEP) return -5;
        int sort = NAMED + what;
        int with = what == 1 ? argument : NONE;
        int known = pool.find(sort, of, with);
        if (known != NONE) return known;
        if (pool.numbered == MOST_EXPRS) return -6;
        changed();
        return pool.number(sort, of, with);
    }

    public int implement(int type, int x) throws IndexOutOfBoundsException {
        needType(type);
        if (types.contracts(type) == MOST_CONTRACTS) return -2;
        if (types.kind(type) != CLASS && types.kind(type) != STRUCT) return -3;
        if (!pool.isNumber(x) || types.kindOf(x) != INTERFACE) return -3;
        if (!types.isFit(x, type)) return -4;
        if (types.hasContract(type, x)) return -5;
        changed();
        return types.addContract(type, x);
    }

    public int field(int type, int x, boolean isStatic) throws IndexOutOfBoundsException {
        needType(type);
        if (types.fields == MOST_FIELDS) return -2;
        int kind = types.kind(type);
        if (kind != CLASS && kind != STRUCT) return -3;
        if (!pool.isNumber(x) || pool.sort(x) == PLACE_OF) return -3;
        if (!types.isFit(x, type)) return -4;
        if (types.fieldsOf(type) == MOST_FIELDS_OF_TYPE) return -5;
        if (kind == STRUCT && !isStatic) {
            if (types.kindOf(x) == STRUCT && pool.typeOf(x) >= type) return -6;
            if (types.fieldCells(type) + types.cells(x) > MOST_STRUCT_CELLS) return -6;
        }
        changed();
        return types.addField(type, x, isStatic);
    }

    public int method(int type, int name, int mode, int result) throws IndexOutOfBoundsException, IllegalArgumentException {
        needType(type);
        if (name < 0 || name > MOST_NAME || mode < STATIC || mode > VIRTUAL) throw new IllegalArgumentException();
        if (methods.many == MOST_METHODS) return -2;
        int kind = types.kind(type);
        if ((kind == INTERFACE || kind == DELEGATE) && mode != VIRTUAL) return -3;
        if (kind == DELEGATE && methods.firstOf(type) != NONE) return -3;
        if (result != NONE && !types.isFit(result, type)) return -4;
        changed();
        return methods.add(type, name, mode, result);
    }

    public int param(int method, int x) throws IndexOutOfBoundsException {
        needMethod(method);
        if (methods.fact(method, GIVEN) == MOST_GIVEN) return -2;
        if (!types.isFit(x, methods.fact(method, TYPE_OF))) return -4;
        changed();
        return methods.addGiven(method, x);
    }

    public int local(int method, int x) throws IndexOutOfBoundsException {
        needMethod(method);
        if (methods.fact(method, LOCALS) == MOST_LOCALS) return -2;
        if (!methods.hasCode(method)) return -3;
        if (!types.isFit(x, methods.fact(method, TYPE_OF)) || pool.sort(x) == PLACE_OF) return -4;
        changed();
        return methods.addLocal(method, x);
    }

    public int code(int method, int operation, int a, int b) throws IndexOutOfBoundsException, IllegalArgumentException {
        needMethod(method);
        needOperation(operation);
        if (methods.fact(method, LINES) == MOST_LINES) return -2;
        if (!methods.hasCode(method)) return -3;
        changed();
        return methods.addLine(method, operation, a, b);
    }

    public int change(int method, int place, int operation, int a, int b) throws IndexOutOfBoundsException, IllegalArgumentException {
        needMethod(method);
        needPlace(method, place);
        needOperation(operation);
        changed();
        int before = methods.operation(method, place);
        methods.setLine(method, place, operation, a, b);
        return before;
    }

    public int cut(int method, int many) throws IndexOutOfBoundsException, IllegalArgumentException {
        needMethod(method);
        if (many < 0 || many > methods.fact(method, LINES)) throw new IllegalArgumentException();
        changed();
        return methods.dropLines(method, many);
    }

    public int handler(int method, int kind, int from, int to, int at, int end) throws IndexOutOfBoundsException, IllegalArgumentException {
        needMethod(method);
        if (kind < CATCH || kind > RESCUE) throw new IllegalArgumentException();
        if (!isLine(from) || !isLine(to) || !isLine(at) || !isLine(end)) throw new IllegalArgumentException();
        if (methods.fact(method, HANDLERS) == MOST_HANDLERS) return -2;
        if (!methods.hasCode(method)) return -3;
        changed();
        int handler = methods.addHandler(method, kind);
        methods.setPart(method, handler, FROM, from);
        methods.setPart(method, handler, TO, to);
        methods.setPart(method, handler, AT_PLACE, at);
        methods.setPart(method, handler, END_PLACE, end);
        methods.setPart(method, handler, WITH, kind == CATCH ? FAULT : kind == FILTER ? at : NONE);
        return handler;
    }

    public int handles(int method, int handler, int with) throws IndexOutOfBoundsException, IllegalArgumentException {
        needMethod(method);
        needHandler(method, handler);
        int kind = methods.part(method, handler, KIND);
        if (kind == FILTER && !isLine(with)) throw new IllegalArgumentException();
        if (kind == FINALLY || kind == RESCUE) return -3;
        changed();
        int before = methods.part(method, handler, WITH);
        methods.setPart(method, handler, WITH, with);
        return before;
    }

    public int unhandle(int method) throws IndexOutOfBoundsException {
        needMethod(method);
        if (methods.fact(method, HANDLERS) == 0) return -2;
        changed();
        return methods.dropHandler(method);
    }

    public int clear() {
        int before = types.many;
        changed();
        types.clearAll();
        methods.many = 0;
        return before;
    }

    public int sample(int k) throws IllegalArgumentException {
        switch (k) {
            case 0: return perform(SAMPLE_0);
            case 1: return perform(SAMPLE_1);
            case 2: return perform(SAMPLE_2);
            case 3: return perform(SAMPLE_3);
            case 4: return perform(SAMPLE_4);
            case 5: return perform(SAMPLE_5);
            case 6: return perform(SAMPLE_6);
            case 7: return perform(SAMPLE_7);
            default: throw new IllegalArgumentException();
        }
    }

    // ---- what is asked of types

    public int types() {
        return types.many;
    }

    public int ofType(int type, int what) throws IndexOutOfBoundsException, IllegalArgumentException {
        needType(type);
        if (what < 0 || what > 7) throw new IllegalArgumentException();
        checker.through(0, 0);
        return typeFact(type, what);
    }

    public int exprs() {
        return pool.numbered;
    }

    public String exprText(int x) throws IndexOutOfBoundsException {
        needExpr(x);
        text.setLength(0);
        pool.tell(text, x);
        return text.toString();
    }

    public int cellsOf(int x) throws IndexOutOfBoundsException {
        needExpr(x);
        return exprCells(x);
    }

    public boolean isA(int x, int y, int type) throws IndexOutOfBoundsException {
        needExpr(x);
        needExpr(y);
        needTypeOrNone(type);
        return types.isUnder(x, y);
    }

    public boolean keeps(int x, int y, int type) throws IndexOutOfBoundsException {
        needExpr(x);
        needExpr(y);
        needTypeOrNone(type);
        return types.holds(x, y, type == NONE ? NONE : types.bound(type));
    }

    public boolean isGood(int x, int type) throws IndexOutOfBoundsException {
        needExpr(x);
        needTypeOrNone(type);
        return types.isFit(x, type);
    }

    public int answer(int c, int method, int x) throws IndexOutOfBoundsException, IllegalArgumentException {
        needExpr(c);
        needExpr(x);
        needMethod(method);
        int kind = types.kindOf(c);
        if (kind != CLASS && kind != STRUCT) throw new IllegalArgumentException();
        if (pool.typeOf(x) != methods.fact(method, TYPE_OF)) throw new IllegalArgumentException();
        return methods.answerOf(c, method, x);
    }

    public int ofField(int field, int what) throws IndexOutOfBoundsException, IllegalArgumentException {
        if (field < 0 || field >= types.fields) throw new IndexOutOfBoundsException();
        switch (what) {
            case 0: return types.fieldOwner(field);
            case 1: return types.fieldExpr(field);
            case 2: return types.isStatic(field) ? 1 : 0;
            default: throw new IllegalArgumentException();
        }
    }

    // ---- what is asked of methods

    public int methods() {
        return methods.many;
    }

    public int ofMethod(int method, int what) throws IndexOutOfBoundsException, IllegalArgumentException {
        needMethod(method);
        if (what < 0 || what >= METHOD_FACTS) throw new IllegalArgumentException();
        return methods.fact(method, what);
    }

    public String codeText(int method, int place) throws IndexOutOfBoundsException {
        needMethod(method);
        needPlace(method, place);
        text.setLength(0);
        methods.tellLine(text, method, place);
        return text.toString();
    }

    public int ofHandler(int method, int handler, int what) throws IndexOutOfBoundsException, IllegalArgumentException {
        needMethod(method);
        needHandler(method, handler);
        if (what < 0 || what >= HANDLER_FACTS) throw new IllegalArgumentException();
        return methods.part(method, handler, what);
    }

    public int error(int method) throws IndexOutOfBoundsException {
        needMethod(method);
        checker.through(method, method + 1);
        return checker.errorKind(method);
    }

    public int errorPlace(int method) throws IndexOutOfBoundsException {
        needMethod(method);
        checker.through(method, method + 1);
        return checker.placeOfError(method);
    }

    public String state(int method, int place) throws IndexOutOfBoundsException {
        needMethod(method);
        needPlace(method, place);
        checker.through(method, method + 1);
        text.setLength(0);
        checker.tellState(text, method, place);
        return text.toString();
    }

    public boolean isRight() {
        checker.through(0, methods.many);
        return checker.isAllRight();
    }

    // ---- runs

    public int limit(int cells) throws IllegalArgumentException {
        if (cells < LEAST_LIMIT || cells > MOST_LIMIT) throw new IllegalArgumentException();
        int before = limit;
        limit = cells;
        walker.limit = cells;
        return before;
    }

    public boolean share(boolean are) {
        boolean before = areShared;
        areShared = are;
        return before;
    }

    public int run(int method, int way, int a, int b, int c) throws IndexOutOfBoundsException, IllegalArgumentException {
        needMethod(method);
        if (way < 0 || way > 1) throw new IllegalArgumentException();
        if (!methods.isEntry(method)) return -2;
        checker.through(0, methods.many);
        if (!checker.isAllRight()) return -3;
        int before = pool.many;
        runner.limit = limit;
        runner.start(method, way, areShared);
        runner.give(a, b, c);
        runner.goOn(MOST_STEPS);
        pool.forget(before);
        for (int k = 0; k < RUN_FACTS; k++) last[k] = runner.fact(k);
        text.setLength(0);
        runner.tellOut(text);
        lastOut = text.toString();
        runs[RUNS]++;
        if (runner.end >= DONE && runner.end <= CUT) runs[1 + runner.end]++;
        return runner.end;
    }

    public String out() {
        return lastOut;
    }

    public int ofRun(int what) throws IllegalArgumentException {
        if (what < 0 || what >= RUN_FACTS) throw new IllegalArgumentException();
        return last[what];
    }

    public boolean areSame(int method, int a, int b, int c) throws IndexOutOfBoundsException, IllegalStateException {
        needMethod(method);
        if (!methods.isEntry(method)) throw new IllegalStateException();
        checker.through(0, methods.many);
        if (!checker.isAllRight()) throw new IllegalStateException();
        int before = pool.many;
        boolean same = true;
        runner.limit = limit;
        for (int k = 0; k < 4; k++) {
            runner.start(method, k / 2, k % 2 == 0);
            runner.give(a, b, c);
            runner.goOn(MOST_STEPS);
            pool.forget(before);
            if (k == 0) runner.keepTold(first);
            else if (!runner.toldAs(first)) same = false;
        }
        return same;
    }

    // ---- a walk

    public int walk(int method, int a, int b, int c) throws IndexOutOfBoundsException {
        needMethod(method);
        if (!methods.isEntry(method)) return -2;
        checker.through(0, methods.many);
        if (!checker.isAllRight()) return -3;
        endWalk();
        beforeWalk = pool.many;
        walks = true;
        walker.limit = limit;
        walker.start(method, 0, areShared);
        walker.give(a, b, c);
        return 0;
    }

    public int step(int many) throws IllegalArgumentException, IllegalStateException {
        if (many < 1 || many > MOST_STEPS) throw new IllegalArgumentException();
        needWalk();
        return walker.goOn(many);
    }

    public int stop() {
        int before = walks ? 1 : 0;
        endWalk();
        return before;
    }

    public int ofWalk(int what) throws IllegalArgumentException, IllegalStateException {
        if (what < 0 || what > 8) throw new IllegalArgumentException();
        needWalk();
        return walkFact(what);
    }

    public String walkOut() throws IllegalStateException {
        needWalk();
        text.setLength(0);
        walker.tellOut(text);
        return text.toString();
    }

    public int ofFrame(int frame, int what) throws IllegalStateException, IndexOutOfBoundsException, IllegalArgumentException {
        needWalk();
        needFrame(frame);
        if (what < 0 || what > 2) throw new IllegalArgumentException();
        return frameFact(frame, what);
    }

    public String holder(int frame) throws IllegalStateException, IndexOutOfBoundsException {
        needWalk();
        needFrame(frame);
        text.setLength(0);
        pool.tell(text, walker.frames.all[frame].holder);
        return text.toString();
    }

    public String value(int frame, int what, int k) throws IllegalStateException, IndexOutOfBoundsException, IllegalArgumentException {
        needWalk();
        needFrame(frame);
        if (what < 0 || what > 2) throw new IllegalArgumentException();
        if (k < 0 || k >= walker.frames.values(frame, what)) throw new IndexOutOfBoundsException();
        text.setLength(0);
        walker.reach.tellEntry(text, frame, what, k);
        return text.toString();
    }

    public int reached(int k) throws IllegalStateException {
        needWalk();
        walker.reach.mark();
        return walker.reach.number(k);
    }

    public String thing(int number) throws IllegalStateException {
        needWalk();
        walker.reach.mark();
        if (!walker.reach.isReached(number)) return "-";
        text.setLength(0);
        walker.reach.tellThing(text, number);
        return text.toString();
    }

    public int collect() throws IllegalStateException {
        needWalk();
        return walker.reach.gather();
    }

    // ---- the whole

    public int house(int what) throws IllegalArgumentException {
        if (what < 0 || what > 7) throw new IllegalArgumentException();
        checker.through(0, methods.many);
        return houseFact(what);
    }

    public int knock() {
        knocks++;
        return knocks;
    }

    public boolean isSound() {
        checker.through(0, methods.many);
        return checker.allStand() && (!walks || walker.reach.isWell());
    }

    public long digest() {
        sum = 7674;
        checker.through(0, methods.many);
        for (int k = 0; k <= 7; k++) mix(houseFact(k));
        mixTypes();
        mix(methods.many);
        for (int m = 0; m < methods.many; m++) mixMethod(m);
        mix(checker.isAllRight() ? 1 : 0);
        for (int k = 0; k < RUN_FACTS; k++) mix(last[k]);
        mix(lastOut.length());
        if (walks) mixWalk();
        mix(checker.allStand() && (!walks || walker.reach.isWell()) ? 1 : 0);
        return sum;
    }

    // ---- what several of these do

    private void needType(int type) {
        if (!types.isType(type)) throw new IndexOutOfBoundsException();
    }

    private void needTypeOrNone(int type) {
        if (type != NONE && !types.isType(type)) throw new IndexOutOfBoundsException();
    }

    private void needExpr(int x) {
        if (!pool.isNumber(x)) throw new IndexOutOfBoundsException();
    }

    private void needMethod(int method) {
        if (!methods.isMethod(method)) throw new IndexOutOfBoundsException();
    }

    private void needPlace(int method, int place) {
        if (place < 0 || place >= methods.fact(method, LINES)) throw new IndexOutOfBoundsException();
    }

    private void needHandler(int method, int handler) {
        if (handler < 0 || handler >= methods.fact(method, HANDLERS)) throw new IndexOutOfBoundsException();
    }

    private void needOperation(int operation) {
        if (operation < NOP || operation > LAST_OPERATION) throw new IllegalArgumentException();
    }

    private void needWalk() {
        if (!walks) throw new IllegalStateException();
    }

    private void needFrame(int frame) {
        if (frame < 0 || frame >= walker.frames.depth) throw new IndexOutOfBoundsException();
    }

    private boolean isLine(int place) {
        return place >= 0 && place <= MOST_LINES;
    }

    /** Something is made: there is no WALK then, and all METHODS are checked anew. */
    private void changed() {
        walks = false;
        pool.forget(pool.numbered);
        checker.forgetAll();
    }

    private void endWalk() {
        if (walks) pool.forget(beforeWalk);
        walks = false;
    }

    /** Does the acts of a SAMPLE; C, H and W are for what was made last. */
    private int perform(int[] acts) {
        clear();
        int m = NONE;
        int h = NONE;
        int k = 0;
        while (k < acts.length) {
            int p = number(acts, k + 1);
            int q = number(acts, k + 2);
            int r = number(acts, k + 3);
            int s = number(acts, k + 4);
            switch (acts[k]) {
                case TY: type(p, q == 1, r, s); k += 5; break;
                case EX: expr(p, q, r); k += 4; break;
                case IM: implement(p, q); k += 3; break;
                case FI: field(p, q, r == 1); k += 4; break;
                case ME: m = method(p, q, r, s); k += 5; break;
                case PA: param(p, q); k += 3; break;
                case LO: local(p, q); k += 3; break;
                case CO: code(m, p, q, r); k += 4; break;
                case HA: h = handler(m, p, q, r, s, number(acts, k + 5)); k += 6; break;
                case WI: handles(m, h, p); k += 2; break;
                default: k++; break;
            }
        }
        return methods.many;
    }

    private int number(int[] acts, int k) {
        return k < acts.length ? acts[k] : 0;
    }

    private int typeFact(int type, int what) {
        switch (what) {
            case 0: return types.kind(type);
            case 1: return types.isOpen(type) ? 1 : 0;
            case 2: return types.bound(type);
            case 3: return types.base(type);
            case 4: return types.contracts(type);
            case 5: return types.fieldsOf(type);
            case 6: return methods.manyOf(type);
            default: return checker.isWhole(type) ? 1 : 0;
        }
    }

    private int exprCells(int x) {
        return pool.isClosed(x) ? types.cells(x) : NONE;
    }

    private int houseFact(int what) {
        switch (what) {
            case HOUSE_LIMIT: return limit;
            case HOUSE_SHARED: return areShared ? 1 : 0;
            case HOUSE_KNOCKS: return knocks;
            case HOUSE_RIGHT: return checker.rightMany();
            default: return runs[what];
        }
    }

    private int walkFact(int what) {
        switch (what) {
            case 0: return walker.end == NONE ? 1 : 0;
            case 1: return walker.end;
            case 2: return walker.fact(1);
            case 3: return walker.fact(2);
            case 4: return walker.fact(3);
            case 5: return walker.frames.depth;
            case 6: walker.reach.mark(); return walker.reach.many;
            case 7: return walker.reach.mark();
            default: return walker.memory.pins;
        }
    }

    private int frameFact(int frame, int what) {
        Frame f = walker.frames.all[frame];
        return what == 0 ? f.method : what == 1 ? f.place : f.many;
    }

    // ---- the checksum

    private void mix(long v) {
        sum = sum * 31 + v;
    }

    /** Texts count by their length alone, so none of them is made for it. */
    private void mixText() {
        mix(text.length());
        text.setLength(0);
    }

    private void mixTypes() {
        mix(types.many);
        for (int t = 0; t < types.many; t++) for (int k = 0; k <= 7; k++) mix(typeFact(t, k));
        mix(pool.numbered);
        text.setLength(0);
        for (int x = 0; x < pool.numbered; x++) {
            pool.tell(text, x);
            mixText();
            mix(exprCells(x));
        }
    }

    private void mixMethod(int m) {
        for (int k = 0; k < METHOD_FACTS; k++) mix(methods.fact(m, k));
        mix(checker.errorKind(m));
        mix(checker.placeOfError(m));
        text.setLength(0);
        for (int p = 0; p < methods.fact(m, LINES); p++) {
            methods.tellLine(text, m, p);
            mixText();
            checker.tellState(text, m, p);
            mixText();
        }
    }

    private void mixWalk() {
        for (int k = 0; k <= 8; k++) mix(walkFact(k));
        text.setLength(0);
        walker.tellOut(text);
        mixText();
        for (int f = 0; f < walker.frames.depth; f++) {
            for (int k = 0; k <= 2; k++) mix(frameFact(f, k));
            pool.tell(text, walker.frames.all[f].holder);
            mixText();
            for (int what = 0; what <= 2; what++) {
                for (int k = 0; k < walker.frames.values(f, what); k++) {
                    walker.reach.tellEntry(text, f, what, k);
                    mixText();
                }
            }
        }
        walker.reach.mark();
        for (int n = 1; n <= walker.memory.made; n++) {
            if (!walker.reach.isReached(n)) continue;
            mix(n);
            walker.reach.tellThing(text, n);
            mixText();
        }
    }

    /**
     * The expressions, each there once. Those that are numbered come first; behind them stand those that came up as
     * one was told for another one, and these go again, the last ones first.
     */
    static final class Pool {
        private static final int HEADS = 512;
        private final int[] heads = new int[HEADS];
        private int[] sorts = new int[256];
        private int[] of = new int[256];
        private int[] argument = new int[256];
        private int[] hasT = new int[256];
        private int[] next = new int[256];
        int many;
        int numbered;

        Pool() {
            Arrays.fill(heads, NONE);
            for (int sort = INT; sort <= T; sort++) make(sort, NONE, NONE);
            numbered = many;
        }

        boolean isNumber(int x) {
            return x >= 0 && x < numbered;
        }

        int sort(int e) {
            return sorts[e];
        }

        boolean isClosed(int e) {
            return hasT[e] == 0;
        }

        /** The TYPE it is of, or NONE. */
        int typeOf(int e) {
            return sorts[e] == NAMED || sorts[e] == APPLIED ? of[e] : NONE;
        }

        int argumentOf(int e) {
            return sorts[e] == APPLIED ? argument[e] : NONE;
        }

        /** The expression that stands in it, or NONE; that one came first, so its place in the pool is lower. */
        int inner(int e) {
            if (sorts[e] == APPLIED) return argument[e];
            return sorts[e] == ROW_OF || sorts[e] == PLACE_OF ? of[e] : NONE;
        }

        int deepOf(int e) {
            int deep = 0;
            for (int k = inner(e); k != NONE; k = inner(k)) deep++;
            return deep;
        }

        boolean isPlaceOf(int e, int x) {
            return sorts[e] == PLACE_OF && of[e] == x;
        }

        /** That one of those that are numbered, or NONE. */
        int find(int sort, int of, int argument) {
            for (int e = 0; e < numbered; e++) {
                if (sorts[e] == sort && this.of[e] == of && this.argument[e] == argument) return e;
            }
            return NONE;
        }

        /** That one, which is made if it is not there. */
        int make(int sort, int of, int argument) {
            int head = (sort + of * 131 + argument * 17) & (HEADS - 1);
            for (int e = heads[head]; e != NONE; e = next[e]) {
                if (sorts[e] == sort && this.of[e] == of && this.argument[e] == argument) return e;
            }
            if (many == sorts.length) {
                sorts = Arrays.copyOf(sorts, many * 2);
                this.of = Arrays.copyOf(this.of, many * 2);
                this.argument = Arrays.copyOf(this.argument, many * 2);
                hasT = Arrays.copyOf(hasT, many * 2);
                next = Arrays.copyOf(next, many * 2);
            }
            int inside = sort == APPLIED ? argument : sort == ROW_OF || sort == PLACE_OF ? of : NONE;
            sorts[many] = sort;
            this.of[many] = of;
            this.argument[many] = argument;
            hasT[many] = inside != NONE ? hasT[inside] : sort == T ? 1 : 0;
            next[many] = heads[head];
            heads[head] = many;
            return many++;
        }

        /** One more that is numbered; what is not numbered has gone before. */
        int number(int sort, int of, int argument) {
            int e = make(sort, of, argument);
            numbered = many;
            return e;
        }

        /** All but the first ones go. */
        void forget(int left) {
            for (int e = many - 1; e >= left; e--) {
                int head = (sorts[e] + of[e] * 131 + argument[e] * 17) & (HEADS - 1);
                heads[head] = next[e];
            }
            if (left < many) many = left;
            if (left < numbered) numbered = left;
        }

        /** The expression e, with T replaced; with NONE it stays as it is. */
        int forArgument(int e, int with) {
            if (with == NONE || hasT[e] == 0) return e;
            int deep = 0;
            for (int k = inner(e); k != NONE; k = inner(k)) deep++;
            int made = with;
            for (int d = deep - 1; d >= 0; d--) {
                int outer = e;
                for (int k = 0; k < d; k++) outer = inner(outer);
                made = sorts[outer] == APPLIED ? make(APPLIED, of[outer], made) : make(sorts[outer], made, NONE);
            }
            return made;
        }

        /** Whether e with T replaced is f with T replaced; neither is made for it. */
        boolean areAlike(int e, int with, int f, int other) {
            int x = e;
            int y = f;
            int xWith = with;
            int yWith = other;
            for (int n = 0; n < ENOUGH; n++) {
                if (sorts[x] == T && xWith != NONE) {
                    x = xWith;
                    xWith = NONE;
                }
                if (sorts[y] == T && yWith != NONE) {
                    y = yWith;
                    yWith = NONE;
                }
                if ((xWith == NONE || hasT[x] == 0) && (yWith == NONE || hasT[y] == 0)) return x == y;
                if (sorts[x] != sorts[y] || typeOf(x) != typeOf(y) || inner(x) == NONE) return false;
                x = inner(x);
                y = inner(y);
            }
            return false;
        }

        void tell(StringBuilder text, int e) {
            int core = e;
            while (inner(core) != NONE) {
                if (sorts[core] == APPLIED) text.append('t').append(of[core]).append('<');
                core = inner(core);
            }
            switch (sorts[core]) {
                case INT: text.append("int"); break;
                case OBJECT: text.append("object"); break;
                case FAULT: text.append("fault"); break;
                case T: text.append('T'); break;
                default: text.append('t').append(of[core]); break;
            }
            // What stands behind comes from the inside out: it is told from the outside in, then turned round.
            int low = text.length();
            for (int k = e; inner(k) != NONE; k = inner(k)) {
                if (sorts[k] == APPLIED) text.append('>');
                else if (sorts[k] == ROW_OF) text.append("][");
                else text.append('&');
            }
            for (int high = text.length() - 1; low < high; high--) {
                char c = text.charAt(low);
                text.setCharAt(low, text.charAt(high));
                text.setCharAt(high, c);
                low++;
            }
        }
    }

    /** The types with their contracts and fields, and how expressions stand to one another. */
    static final class Types {
        final Pool pool;
        int many;
        int fields;
        private final int[] kinds = new int[MOST_TYPES];
        private final boolean[] open = new boolean[MOST_TYPES];
        private final int[] bounds = new int[MOST_TYPES];
        private final int[] baseExprs = new int[MOST_TYPES];
        private final int[] contractMany = new int[MOST_TYPES];
        private final int[] contractExprs = new int[MOST_TYPES * MOST_CONTRACTS];
        private final int[] structCells = new int[MOST_TYPES];
        private final int[] owners = new int[MOST_FIELDS];
        private final int[] exprs = new int[MOST_FIELDS];
        private final boolean[] statics = new boolean[MOST_FIELDS];
        private final int[] chain = new int[MOST_TYPES];

        Types(Pool pool) {
            this.pool = pool;
        }

        void clearAll() {
            many = 0;
            fields = 0;
            pool.forget(T + 1);
        }

        /** Lays a TYPE behind the last one, so that isFit() can be asked about it; it is none yet. */
        void layType(int kind, boolean isOpen, int bound, int base) {
            kinds[many] = kind;
            open[many] = isOpen;
            bounds[many] = bound;
            baseExprs[many] = base;
            contractMany[many] = 0;
            structCells[many] = 1;
        }

        int addType() {
            return many++;
        }

        int addContract(int type, int x) {
            contractExprs[type * MOST_CONTRACTS + contractMany[type]] = x;
            contractMany[type]++;
            return contractMany[type];
        }

        int addField(int type, int x, boolean isStatic) {
            owners[fields] = type;
            exprs[fields] = x;
            statics[fields] = isStatic;
            fields++;
            // A STRUCT has only such of smaller numbers in it, so these are known as it is counted.
            for (int t = 0; t < many; t++) if (kinds[t] == STRUCT) structCells[t] = Math.max(1, fieldCells(t));
            return fields - 1;
        }

        boolean isType(int t) {
            return t >= 0 && t < many;
        }

        int kind(int t) {
            return kinds[t];
        }

        boolean isOpen(int t) {
            return open[t];
        }

        int bound(int t) {
            return bounds[t];
        }

        int base(int t) {
            return baseExprs[t];
        }

        int contracts(int t) {
            return contractMany[t];
        }

        int contract(int t, int k) {
            return contractExprs[t * MOST_CONTRACTS + k];
        }

        boolean hasContract(int t, int x) {
            for (int k = 0; k < contractMany[t]; k++) if (contract(t, k) == x) return true;
            return false;
        }

        int fieldOwner(int f) {
            return owners[f];
        }

        int fieldExpr(int f) {
            return exprs[f];
        }

        boolean isStatic(int f) {
            return statics[f];
        }

        /** Whether it is one of those that each THING or VALUE of the TYPE has. */
        boolean isPart(int f, int t) {
            return owners[f] == t && !statics[f];
        }

        int fieldsOf(int t) {
            int count = 0;
            for (int f = 0; f < fields; f++) if (owners[f] == t) count++;
            return count;
        }

        int kindOf(int e) {
            int t = pool.typeOf(e);
            return t == NONE ? NONE : kinds[t];
        }

        boolean isReference(int e) {
            int sort = pool.sort(e);
            if (sort == OBJECT || sort == FAULT || sort == ROW_OF) return true;
            int kind = kindOf(e);
            return kind == CLASS || kind == INTERFACE || kind == DELEGATE;
        }

        boolean isValue(int e) {
            return e == INT || kindOf(e) == STRUCT;
        }

        int self(int t) {
            return open[t] ? pool.make(APPLIED, t, T) : pool.make(NAMED, t, NONE);
        }

        /** The next one of the BASES behind e, or NONE. */
        int baseOf(int e) {
            int kind = kindOf(e);
            if (kind == CLASS) return pool.forArgument(baseExprs[pool.typeOf(e)], pool.argumentOf(e));
            if (kind == INTERFACE || kind == DELEGATE) return OBJECT;
            return e == FAULT || pool.sort(e) == ROW_OF ? OBJECT : NONE;
        }

        /** The first one of the BASES of e that is of that TYPE, or NONE. */
        int baseAt(int e, int t) {
            for (int b = e; b != NONE; b = baseOf(b)) if (pool.typeOf(b) == t) return b;
            return NONE;
        }

        /** Whether i is a CONTRACT of the TYPE of b FOR b. */
        private boolean hasContractFor(int b, int i) {
            int t = pool.typeOf(b);
            if (t == NONE) return false;
            for (int k = 0; k < contractMany[t]; k++) {
                if (pool.areAlike(contract(t, k), pool.argumentOf(b), i, NONE)) return true;
            }
            return false;
        }

        /** Whether x KEEPS i, where T has that bound (or NONE). */
        boolean holds(int x, int i, int bound) {
            if (kindOf(i) != INTERFACE) return false;
            if (x == i) return true;
            if (x == T) return bound == i;
            for (int b = x; b != NONE; b = baseOf(b)) if (hasContractFor(b, i)) return true;
            return false;
        }

        /** Whether x IS A y. */
        boolean isUnder(int x, int y) {
            int a = x;
            int b = y;
            for (int n = 0; n < ENOUGH && isReference(a) && isReference(b); n++) {
                if (b == OBJECT) return true;
                for (int c = a; c != NONE; c = baseOf(c)) if (c == b || hasContractFor(c, b)) return true;
                if (pool.sort(a) != ROW_OF || pool.sort(b) != ROW_OF) return false;
                a = pool.inner(a);
                b = pool.inner(b);
            }
            return false;
        }

        /** Whether a BOX of that type, if it is one, IS OF another type x. */
        boolean isBoxOf(int type, int x) {
            return isValue(type) && (x == OBJECT || hasContractFor(type, x));
        }

        /** Whether x is an EXPRESSION that is GOOD in that TYPE (of NONE: without T). */
        boolean isFit(int x, int type) {
            if (!pool.isNumber(x)) return false;
            boolean hasParameter = type != NONE && open[type];
            int bound = hasParameter ? bounds[type] : NONE;
            if (!hasParameter && !pool.isClosed(x)) return false;
            for (int k = x; k != NONE; k = pool.inner(k)) {
                int t = pool.typeOf(k);
                if (t == NONE || bounds[t] == NONE || pool.argumentOf(k) == NONE) continue;
                if (!holds(pool.argumentOf(k), bounds[t], bound)) return false;
            }
            return true;
        }

        /** CELLS as a VALUE. (T counts as the REFERENCE it stands for in a BODY that is SHARED.) */
        int cells(int e) {
            if (pool.sort(e) == PLACE_OF) return 2;
            int t = pool.typeOf(e);
            return t != NONE && kinds[t] == STRUCT ? structCells[t] : 1;
        }

        /** CELLS of the FIELDS of a STRUCT together, 0 without one. */
        int fieldCells(int t) {
            return cellsBefore(MOST_FIELDS, t, NONE);
        }

        private int cellsBefore(int f, int t, int with) {
            int sum = 0;
            for (int k = 0; k < fields && k < f; k++) {
                if (isPart(k, t)) sum += cells(exprs[k] == T && with != NONE ? with : exprs[k]);
            }
            return sum;
        }

        /**
         * Where a FIELD lies: in a VALUE of a STRUCT x, or in an object that has x as one of its BASES. With MOST_FIELDS,
         * which is behind all of them, the CELLS of an object of x.
         */
        int fieldAt(int f, int x) {
            if (kindOf(x) == STRUCT) return cellsBefore(f, pool.typeOf(x), NONE);
            int at = 0;
            int before = f;
            int b = x;
            while (kindOf(b) == CLASS) {
                at += cellsBefore(before, pool.typeOf(b), pool.argumentOf(b));
                before = MOST_FIELDS;
                b = pool.forArgument(baseExprs[pool.typeOf(b)], pool.argumentOf(b));
            }
            return at + (b == FAULT ? 3 : 2);
        }

        /** The FIELDS of an object of x as they lie there, with their types, ahead of all its CODE if it has one; how many. */
        int layOut(int x, int[] type, int[] at) {
            int deep = 0;
            int b = x;
            while (kindOf(b) == CLASS && deep < chain.length) {
                chain[deep++] = b;
                b = pool.forArgument(baseExprs[pool.typeOf(b)], pool.argumentOf(b));
            }
            int place = 2;
            int count = 0;
            if (b == FAULT) {
                type[0] = INT;
                at[0] = place++;
                count = 1;
            }
            for (int k = deep - 1; k >= 0; k--) {
                for (int f = 0; f < fields; f++) {
                    if (!isPart(f, pool.typeOf(chain[k]))) continue;
                    type[count] = pool.forArgument(exprs[f], pool.argumentOf(chain[k]));
                    at[count] = place;
                    place += cells(type[count]);
                    count++;
                }
            }
            return count;
        }
    }

    /** The methods with their instructions and handlers. */
    static final class Methods {
        final Types types;
        final Pool pool;
        int many;
        private final int[] facts = new int[MOST_METHODS * METHOD_FACTS];
        private final int[] given = new int[MOST_METHODS * MOST_GIVEN];
        private final int[] locals = new int[MOST_METHODS * MOST_LOCALS];
        private final int[] lines = new int[MOST_METHODS * MOST_LINES * 3];
        private final int[] parts = new int[MOST_METHODS * MOST_HANDLERS * HANDLER_FACTS];

        Methods(Types types) {
            this.types = types;
            this.pool = types.pool;
        }

        int add(int type, int name, int mode, int result) {
            int m = many++;
            facts[m * METHOD_FACTS + TYPE_OF] = type;
            facts[m * METHOD_FACTS + NAME] = name;
            facts[m * METHOD_FACTS + MODE] = mode;
            facts[m * METHOD_FACTS + RESULT] = result;
            for (int what = GIVEN; what <= HANDLERS; what++) facts[m * METHOD_FACTS + what] = 0;
            return m;
        }

        boolean isMethod(int m) {
            return m >= 0 && m < many;
        }

        int fact(int m, int what) {
            return facts[m * METHOD_FACTS + what];
        }

        private int grow(int m, int what, int by) {
            facts[m * METHOD_FACTS + what] += by;
            return facts[m * METHOD_FACTS + what];
        }

        int addGiven(int m, int x) {
            given[m * MOST_GIVEN + fact(m, GIVEN)] = x;
            return grow(m, GIVEN, 1);
        }

        int addLocal(int m, int x) {
            locals[m * MOST_LOCALS + fact(m, LOCALS)] = x;
            return grow(m, LOCALS, 1);
        }

        int addLine(int m, int operation, int a, int b) {
            setLine(m, fact(m, LINES), operation, a, b);
            return grow(m, LINES, 1);
        }

        void setLine(int m, int p, int operation, int a, int b) {
            int at = (m * MOST_LINES + p) * 3;
            lines[at] = operation;
            lines[at + 1] = a;
            lines[at + 2] = b;
        }

        int dropLines(int m, int count) {
            return grow(m, LINES, -count);
        }

        /** One more HANDLER, whose places are told behind it. */
        int addHandler(int m, int kind) {
            int h = grow(m, HANDLERS, 1) - 1;
            setPart(m, h, KIND, kind);
            return h;
        }

        int dropHandler(int m) {
            return grow(m, HANDLERS, -1);
        }

        int part(int m, int h, int what) {
            return parts[(m * MOST_HANDLERS + h) * HANDLER_FACTS + what];
        }

        void setPart(int m, int h, int what, int value) {
            parts[(m * MOST_HANDLERS + h) * HANDLER_FACTS + what] = value;
        }

        int operation(int m, int p) {
            return lines[(m * MOST_LINES + p) * 3];
        }

        int a(int m, int p) {
            return lines[(m * MOST_LINES + p) * 3 + 1];
        }

        int b(int m, int p) {
            return lines[(m * MOST_LINES + p) * 3 + 2];
        }

        int givenExpr(int m, int k) {
            return given[m * MOST_GIVEN + k];
        }

        int localExpr(int m, int k) {
            return locals[m * MOST_LOCALS + k];
        }

        /** Whether there is what the numbers of an instruction tell, be it of the right sort or not. */
        boolean canBeRead(int m, int p) {
            switch (FORM[operation(m, p)]) {
                case WITH_X: return pool.isNumber(a(m, p));
                case WITH_METHOD: return pool.isNumber(b(m, p));
                case WITH_FIELD: return pool.isNumber(b(m, p)) && a(m, p) >= 0 && a(m, p) < types.fields;
                default: return true;
            }
        }

        int kindOfOwner(int m) {
            return types.kind(fact(m, TYPE_OF));
        }

        boolean hasCode(int m) {
            return kindOfOwner(m) == CLASS || kindOfOwner(m) == STRUCT;
        }

        int parameters(int m) {
            return fact(m, GIVEN) + (fact(m, MODE) == STATIC ? 0 : 1);
        }

        /** The expression of a PARAMETER, as the METHOD itself sees it. */
        int parameter(int m, int k) {
            if (fact(m, MODE) == STATIC) return givenExpr(m, k);
            if (k > 0) return givenExpr(m, k - 1);
            int self = types.self(fact(m, TYPE_OF));
            return kindOfOwner(m) == STRUCT ? pool.make(PLACE_OF, self, NONE) : self;
        }

        int manyOf(int type) {
            int count = 0;
            for (int m = 0; m < many; m++) if (fact(m, TYPE_OF) == type) count++;
            return count;
        }

        /** The first METHOD of a TYPE (the only one of a DELEGATE), or NONE. */
        int firstOf(int type) {
            for (int m = 0; m < many; m++) if (fact(m, TYPE_OF) == type) return m;
            return NONE;
        }

        /** Whether what m is given and its RESULT are those of n, with T replaced in both. */
        boolean areSigned(int m, int with, int n, int other) {
            int count = fact(m, GIVEN);
            if (count != fact(n, GIVEN)) return false;
            for (int k = 0; k < count; k++) if (!pool.areAlike(givenExpr(m, k), with, givenExpr(n, k), other)) return false;
            int r = fact(m, RESULT);
            int s = fact(n, RESULT);
            if (r == NONE || s == NONE) return r == s;
            return pool.areAlike(r, with, s, other);
        }

        /** The ANSWER of c to m FOR x, or NONE. */
        int answerOf(int c, int m, int x) {
            for (int b = c; b != NONE; b = types.baseOf(b)) {
                int t = pool.typeOf(b);
                for (int k = 0; k < many; k++) {
                    if (fact(k, TYPE_OF) != t || fact(k, MODE) != VIRTUAL || fact(k, NAME) != fact(m, NAME)) continue;
                    if (areSigned(k, pool.argumentOf(b), m, pool.argumentOf(x))) return k;
                }
            }
            return NONE;
        }

        boolean isWhole(int t) {
            if (types.kind(t) == INTERFACE) return true;
            if (types.kind(t) == DELEGATE) return firstOf(t) != NONE;
            int self = types.self(t);
            for (int b = self; b != NONE; b = types.baseOf(b)) {
                int of = pool.typeOf(b);
                if (of == NONE) continue;
                for (int k = 0; k < types.contracts(of); k++) {
                    if (!answersAll(self, pool.forArgument(types.contract(of, k), pool.argumentOf(b)))) return false;
                }
            }
            return true;
        }

        private boolean answersAll(int self, int i) {
            for (int m = 0; m < many; m++) {
                if (fact(m, TYPE_OF) == pool.typeOf(i) && answerOf(self, m, i) == NONE) return false;
            }
            return true;
        }

        boolean isEntry(int m) {
            if (fact(m, MODE) != STATIC || types.isOpen(fact(m, TYPE_OF))) return false;
            if (fact(m, RESULT) != NONE && fact(m, RESULT) != INT) return false;
            for (int k = 0; k < fact(m, GIVEN); k++) if (givenExpr(m, k) != INT) return false;
            return true;
        }

        // ---- PARTS of HANDLERS

        int partFrom(int m, int h, int part) {
            int what = part == TRY ? FROM : part == BLOCK ? AT_PLACE : WITH;
            return parts[(m * MOST_HANDLERS + h) * HANDLER_FACTS + what];
        }

        /** The place behind a PART; where it begins, if there is no such PART. */
        int partEnd(int m, int h, int part) {
            int at = (m * MOST_HANDLERS + h) * HANDLER_FACTS;
            if (part == TRY) return parts[at + TO];
            if (part == BLOCK) return parts[at + END_PLACE];
            return parts[at + (parts[at + KIND] == FILTER ? AT_PLACE : WITH)];
        }

        boolean isIn(int m, int h, int part, int p) {
            return p >= partFrom(m, h, part) && p < partEnd(m, h, part);
        }

        boolean doMeet(int m, int h, int part, int g, int other) {
            return Math.max(partFrom(m, h, part), partFrom(m, g, other)) < Math.min(partEnd(m, h, part), partEnd(m, g, other));
        }

        /** Whether that PART of h lies in the other one of g. */
        boolean liesIn(int m, int h, int part, int g, int other) {
            return partFrom(m, h, part) >= partFrom(m, g, other) && partEnd(m, h, part) <= partEnd(m, g, other);
        }

        /** The smallest PART that has the place, as h * PARTS + part; NONE if it lies in none. */
        int partAt(int m, int p) {
            int found = NONE;
            int least = MOST_LINES + 1;
            for (int h = 0; h < fact(m, HANDLERS); h++) {
                for (int part = TRY; part <= TEST; part++) {
                    int size = partEnd(m, h, part) - partFrom(m, h, part);
                    if (!isIn(m, h, part, p) || size >= least) continue;
                    least = size;
                    found = h * PARTS + part;
                }
            }
            return found;
        }

        // ---- texts

        private void tellName(StringBuilder text, int operation) {
            int word = 0;
            for (int k = 0; k < NAMES.length() && word <= operation; k++) {
                if (NAMES.charAt(k) == ' ') word++;
                else if (word == operation) text.append(NAMES.charAt(k));
            }
        }

        void tellLine(StringBuilder text, int m, int p) {
            int operation = operation(m, p);
            int form = FORM[operation];
            tellName(text, operation);
            if (form == WITH_A || form == WITH_METHOD || form == WITH_FIELD) text.append(' ').append(a(m, p));
            if (form == PLAIN || form == WITH_A) return;
            int x = form == WITH_X ? a(m, p) : b(m, p);
            text.append(' ');
            if (pool.isNumber(x)) pool.tell(text, x);
            else text.append('?');
        }
    }

    /** What an instruction is given and leaves, as its operation and its two numbers tell it. */
    static final class Need {
        // How an entry of the stack has to be, told with an expression or without one.
        static final int ANY = 0, NUMBER = 1, TRUTH = 2, REFERENCE = 3, INTO = 4, UNDER = 5, JUST_PLACE = 6, PLACE_OR_VALUE = 7;
        static final int SOME_ROW = 8, ROW_FOR_AT = 9, ROW_FOR_PUT = 10, JUST_ROW = 11, PLACE_TO_CALL = 12, TARGET = 13;
        // Whether a PLACE that is left is NEAR: never, always, or if one of those that were given is.
        static final int FAR = 0, NEAR = 1, AS_GIVEN = 2;
        static final int NOTHING = -2, NO_OBJECT = -1;

        private final Methods methods;
        private final Types types;
        private final Pool pool;
        private final boolean[] good = new boolean[MOST_EXPRS];
        private int method;
        int operation;
        int a;
        int b;
        int many;
        final int[] mode = new int[MOST_GIVEN + 2];
        final int[] expr = new int[MOST_GIVEN + 2];
        int left;
        int nearness;

        Need(Methods methods) {
            this.methods = methods;
            this.types = methods.types;
            this.pool = methods.pool;
        }

        /** From here on it is this METHOD that is read. */
        void begin(int m) {
            method = m;
            for (int x = 0; x < pool.numbered; x++) good[x] = types.isFit(x, methods.fact(m, TYPE_OF));
        }

        boolean isGoodNumber(int x) {
            return pool.isNumber(x) && good[x];
        }

        private void want(int how, int x) {
            mode[many] = how;
            expr[many] = x;
            many++;
        }

        private void leave(int x, int near) {
            left = x;
            nearness = near;
        }

        /** Reads the instruction at p; false, if what its numbers tell is not so. */
        boolean read(int p) {
            operation = methods.operation(method, p);
            a = methods.a(method, p);
            b = methods.b(method, p);
            many = 0;
            left = NOTHING;
            nearness = FAR;
            switch (FORM[operation]) {
                case WITH_A: return readNumbered();
                case WITH_X: return isGoodNumber(a) && (operation == INVOKE ? readInvoke() : readTyped());
                case WITH_METHOD: return methods.isMethod(a) && isGoodNumber(b) && (operation == BIND ? readBind() : readCall());
                case WITH_FIELD: return readField();
                default: readPlain(); return true;
            }
        }

        private void readPlain() {
            switch (operation) {
                case NULL: leave(NO_OBJECT, FAR); break;
                case ADD: case SUB: case MUL: case DIV: case REM: case LT:
                    want(NUMBER, NONE); want(NUMBER, NONE); leave(INT, FAR); break;
                case EQ: want(TRUTH, NONE); want(TRUTH, NONE); leave(INT, FAR); break;
                case DUP: case POP: want(ANY, NONE); break;
                case RET:
                    if (methods.fact(method, RESULT) != NONE) want(INTO, methods.fact(method, RESULT));
                    break;
                case LEN: want(SOME_ROW, NONE); leave(INT, FAR); break;
                case THROW: want(UNDER, FAULT); break;
                case ENDFILTER: case OUT: want(NUMBER, NONE); break;
                case CELLS: leave(INT, FAR); break;
                case PIN: want(REFERENCE, NONE); break;
                case CODEOF: want(UNDER, FAULT); leave(INT, FAR); break;
                case SETCODE: want(UNDER, FAULT); want(NUMBER, NONE); break;
                default: break;
            }
        }

        private boolean readNumbered() {
            switch (operation) {
                case NUM: leave(INT, FAR); return a >= -MOST_NUMBER && a <= MOST_NUMBER;
                case ARG: case SETARG: case ARGP:
                    return a >= 0 && a < methods.parameters(method) && readSlot(methods.parameter(method, a));
                case LOC: case SETLOC: case LOCP:
                    return a >= 0 && a < methods.fact(method, LOCALS) && readSlot(methods.localExpr(method, a));
                case IF: case IFNOT: want(TRUTH, NONE); break;
                default: break;
            }
            return a >= 0 && a < methods.fact(method, LINES);
        }

        private boolean readSlot(int x) {
            if (operation == SETARG || operation == SETLOC) {
                want(INTO, x);
                return true;
            }
            if (operation == ARG || operation == LOC) {
                leave(x, FAR);
                return true;
            }
            if (pool.sort(x) == PLACE_OF) return false;
            leave(pool.make(PLACE_OF, x, NONE), NEAR);
            return true;
        }

        private boolean readTyped() {
            int x = a;
            boolean isPlace = pool.sort(x) == PLACE_OF;
            switch (operation) {
                case MAKE: leave(x, FAR); return x == OBJECT || x == FAULT || types.kindOf(x) == CLASS;
                case BOX: want(INTO, x); leave(OBJECT, FAR); return !isPlace;
                case UNBOX: want(REFERENCE, NONE); leave(pool.make(PLACE_OF, x, NONE), FAR); return types.isValue(x);
                case UNBOXA: want(REFERENCE, NONE); leave(x, FAR); return !isPlace;
                case CAST: want(REFERENCE, NONE); leave(x, FAR); return types.isReference(x);
                case ISA: want(REFERENCE, NONE); leave(types.isReference(x) ? x : OBJECT, FAR); return !isPlace;
                default: return !isPlace && readRow(x);
            }
        }

        private boolean readRow(int x) {
            switch (operation) {
                case ROW: want(NUMBER, NONE); leave(pool.make(ROW_OF, x, NONE), FAR); break;
                case AT: want(ROW_FOR_AT, x); want(NUMBER, NONE); leave(x, FAR); break;
                case PUT: want(ROW_FOR_PUT, x); want(NUMBER, NONE); want(INTO, x); break;
                case ATP: want(JUST_ROW, x); want(NUMBER, NONE); leave(pool.make(PLACE_OF, x, NONE), FAR); break;
                case LOAD: want(JUST_PLACE, x); leave(x, FAR); break;
                case STORE: want(JUST_PLACE, x); want(INTO, x); break;
                case INIT: want(JUST_PLACE, x); break;
                default: break;
            }
            return true;
        }

        /** What m is given FOR x, and its RESULT. */
        private void readSignature(int m, int x) {
            int with = pool.argumentOf(x);
            for (int k = 0; k < methods.fact(m, GIVEN); k++) want(INTO, pool.forArgument(methods.givenExpr(m, k), with));
            int result = methods.fact(m, RESULT);
            if (result != NONE) leave(pool.forArgument(result, with), AS_GIVEN);
        }

        private boolean readCall() {
            int kind = methods.kindOfOwner(a);
            int type = methods.fact(a, TYPE_OF);
            boolean isStatic = methods.fact(a, MODE) == STATIC;
            if (pool.typeOf(b) != type) return false;
            if (operation == CALL && kind != CLASS && kind != STRUCT) return false;
            if (operation == CALLV && (isStatic || kind != CLASS && kind != INTERFACE)) return false;
            if (operation == CALLON && kind != INTERFACE) return false;
            if (operation == CALLON) want(PLACE_TO_CALL, b);
            else if (!isStatic) want(kind == STRUCT ? JUST_PLACE : UNDER, b);
            readSignature(a, b);
            return true;
        }

        private boolean readBind() {
            int kind = methods.kindOfOwner(a);
            if (types.kindOf(b) != DELEGATE || methods.firstOf(pool.typeOf(b)) == NONE) return false;
            leave(b, FAR);
            if (methods.fact(a, MODE) == STATIC) return !types.isOpen(methods.fact(a, TYPE_OF)) && methods.hasCode(a);
            want(TARGET, NONE);
            return kind == CLASS;
        }

        private boolean readInvoke() {
            if (types.kindOf(a) != DELEGATE) return false;
            int m = methods.firstOf(pool.typeOf(a));
            if (m == NONE) return false;
            want(UNDER, a);
            readSignature(m, a);
            return true;
        }

        private boolean readField() {
            if (a < 0 || a >= types.fields || !isGoodNumber(b)) return false;
            boolean isStatic = operation >= GETS;
            if (types.isStatic(a) != isStatic || pool.typeOf(b) != types.fieldOwner(a)) return false;
            boolean isOfStruct = types.kindOf(b) == STRUCT;
            int x = pool.forArgument(types.fieldExpr(a), pool.argumentOf(b));
            if (!isStatic) want(!isOfStruct ? UNDER : operation == GET ? PLACE_OR_VALUE : JUST_PLACE, b);
            switch (operation) {
                case GET: case GETS: leave(x, FAR); break;
                case SET: case SETS: want(INTO, x); break;
                case GETP: leave(pool.make(PLACE_OF, x, NONE), AS_GIVEN); break;
                default: leave(pool.make(PLACE_OF, x, NONE), FAR); break;
            }
            return true;
        }

        /** Whether an entry with that expression (NO_OBJECT is NULL) is as the k-th one has to be. */
        boolean isMet(int k, int e) {
            int x = expr[k];
            boolean isNull = e == NO_OBJECT;
            switch (mode[k]) {
                case ANY: return true;
                case NUMBER: return e == INT;
                case TRUTH: return isNull || e == INT || types.isReference(e);
                case REFERENCE: return isNull || types.isReference(e);
                case INTO: return isNull ? types.isReference(x) : e == x || types.isUnder(e, x);
                case UNDER: return isNull || types.isUnder(e, x);
                case JUST_PLACE: return !isNull && pool.isPlaceOf(e, x);
                case PLACE_OR_VALUE: return !isNull && (e == x || pool.isPlaceOf(e, x));
                default: break;
            }
            if (mode[k] == TARGET) {
                int h = isNull ? NONE : types.baseAt(e, methods.fact(a, TYPE_OF));
                return h != NONE && isSignedWith(pool.argumentOf(h));
            }
            if (mode[k] == PLACE_TO_CALL) {
                if (isNull || pool.sort(e) != PLACE_OF) return false;
                int y = pool.inner(e);
                return types.holds(y, x, types.bound(methods.fact(method, TYPE_OF))) || types.isUnder(y, x);
            }
            if (isNull || pool.sort(e) != ROW_OF) return isNull;
            int of = pool.inner(e);
            if (mode[k] == SOME_ROW || of == x) return true;
            return mode[k] == ROW_FOR_AT && types.isUnder(of, x) || mode[k] == ROW_FOR_PUT && types.isUnder(x, of);
        }

        /** Whether the METHOD that is bound, with T replaced so, is signed as the one of the DELEGATE. */
        private boolean isSignedWith(int argument) {
            return methods.areSigned(a, argument, methods.firstOf(pool.typeOf(b)), pool.argumentOf(b));
        }

        /** What no entry tells alone: two that are told the same way, and what is bound without a target. */
        boolean isMetByAll(int e, int f) {
            if (operation == EQ) return (e == INT) == (f == INT);
            return operation != BIND || many > 0 || isSignedWith(NONE);
        }
    }

    /** The check of methods: their errors and the states of their instructions. */
    static final class Checker {
        // An entry of a STATE: twice the number of its expression, and 1 more for a PLACE that is NEAR.
        private static final int NULL_ENTRY = -1, NO_ENTRY = -2;
        // What a way brings: what lies on the stack, nothing, or one entry alone.
        private static final int ALL_OF_IT = -3, NOTHING = -4;
        private static final int MOST_WAYS = 2 * MOST_HANDLERS + 2;

        private final Methods methods;
        private final Types types;
        private final Pool pool;
        private final Need need;
        private final boolean[] whole = new boolean[MOST_TYPES];
        private boolean areTypesJudged;
        private final boolean[] isChecked = new boolean[MOST_METHODS];
        private final int[] kinds = new int[MOST_METHODS];
        private final int[] places = new int[MOST_METHODS];
        private final int[] lengths = new int[MOST_METHODS * MOST_LINES];
        private final int[] entries = new int[MOST_METHODS * MOST_LINES * MOST_STACK];
        private final boolean[] waits = new boolean[MOST_LINES];
        private final int[] row = new int[MOST_STACK];
        private int rowMany;
        private final int[] merged = new int[MOST_STACK];
        private final int[] wayTo = new int[MOST_WAYS];
        private final int[] wayBrings = new int[MOST_WAYS];
        private final int[] wayError = new int[MOST_WAYS];
        private int ways;
        private boolean hasChanged;

        Checker(Methods methods) {
            this.methods = methods;
            this.types = methods.types;
            this.pool = methods.pool;
            this.need = new Need(methods);
        }

        void forgetAll() {
            areTypesJudged = false;
            for (int m = 0; m < MOST_METHODS; m++) isChecked[m] = false;
        }

        // ---- what is told of it, behind through()

        boolean isWhole(int type) {
            return whole[type];
        }

        int errorKind(int m) {
            return kinds[m];
        }

        int placeOfError(int m) {
            return places[m];
        }

        int rightMany() {
            int count = 0;
            for (int m = 0; m < methods.many; m++) if (kinds[m] == 0) count++;
            return count;
        }

        boolean isAllRight() {
            for (int t = 0; t < types.many; t++) if (!whole[t]) return false;
            return rightMany() == methods.many;
        }

        void tellState(StringBuilder text, int m, int p) {
            int many = lengths[m * MOST_LINES + p];
            if (many == NONE) text.append('-');
            for (int k = 0; k < many; k++) {
                int e = entry(m, p, k);
                if (k > 0) text.append(' ');
                if (e == NULL_ENTRY) text.append("null");
                else pool.tell(text, e >> 1);
                if (isNear(e)) text.append('!');
            }
        }

        /** Whether each instruction of the METHODS that are RIGHT still leaves what the STATES behind it tell. */
        boolean allStand() {
            for (int m = 0; m < methods.many; m++) {
                if (kinds[m] != 0 || !methods.hasCode(m)) continue;
                need.begin(m);
                hasChanged = false;
                for (int p = 0; p < methods.fact(m, LINES); p++) {
                    if (lengths[m * MOST_LINES + p] != NONE && !lookAt(m, p)) return false;
                }
                if (hasChanged) return false;
            }
            return true;
        }

        // ---- the check

        /** Checks those METHODS of these that were not checked since something was made; all TYPES, too. */
        void through(int from, int to) {
            for (int t = 0; t < types.many && !areTypesJudged; t++) whole[t] = methods.isWhole(t);
            areTypesJudged = true;
            for (int m = from; m < to; m++) {
                if (isChecked[m]) continue;
                isChecked[m] = true;
                need.begin(m);
                begin(m);
                for (int n = 0; n < ENOUGH && kinds[m] == 0; n++) {
                    int p = firstWaiting(m);
                    if (p == NONE) break;
                    waits[p] = false;
                    lookAt(m, p);
                }
            }
        }

        private int firstWaiting(int m) {
            for (int p = 0; p < methods.fact(m, LINES); p++) if (waits[p]) return p;
            return NONE;
        }

        private boolean fail(int m, int kind, int place) {
            kinds[m] = kind;
            places[m] = place;
            return false;
        }

        /** What is looked at ahead of all instructions; then the first one has its STATE. */
        private void begin(int m) {
            kinds[m] = 0;
            places[m] = NONE;
            for (int p = 0; p < MOST_LINES; p++) {
                waits[p] = false;
                lengths[m * MOST_LINES + p] = NONE;
            }
            if (!methods.hasCode(m)) return;
            if (!whole[methods.fact(m, TYPE_OF)]) {
                fail(m, NOT_WHOLE, NONE);
                return;
            }
            for (int h = 0; h < methods.fact(m, HANDLERS); h++) {
                if (isHandlerRight(m, h)) continue;
                fail(m, BAD_HANDLER, h);
                return;
            }
            if (methods.fact(m, LINES) == 0) {
                fail(m, BAD_END, 0);
                return;
            }
            lengths[m * MOST_LINES] = 0;
            waits[0] = true;
            for (int h = 0; h < methods.fact(m, HANDLERS); h++) {
                if (methods.isIn(m, h, BLOCK, 0) || methods.isIn(m, h, TEST, 0)) fail(m, BAD_WAY, 0);
            }
        }

        // ---- HANDLERS

        /** The last one of its PARTS: a FILTER alone has a TEST. */
        private int lastPart(int m, int h) {
            return methods.part(m, h, KIND) == FILTER ? TEST : BLOCK;
        }

        private boolean isHandlerRight(int m, int h) {
            for (int part = TRY; part <= lastPart(m, h); part++) {
                int from = methods.partFrom(m, h, part);
                int end = methods.partEnd(m, h, part);
                if (from >= end || end > methods.fact(m, LINES)) return false;
                for (int other = TRY; other < part; other++) if (methods.doMeet(m, h, part, h, other)) return false;
            }
            int with = methods.part(m, h, WITH);
            if (methods.part(m, h, KIND) == CATCH && (!need.isGoodNumber(with) || !types.isUnder(with, FAULT))) return false;
            for (int g = 0; g < h; g++) if (!doStandTogether(m, g, h)) return false;
            return true;
        }

        /** Whether g, that has the smaller number, stands to h in one of the ways that are let. */
        private boolean doStandTogether(int m, int g, int h) {
            if (!doAnyMeet(m, g, h, true)) return true;
            if (haveSameTry(m, g, h) && !doAnyMeet(m, g, h, false)) return true;
            if (areAllIn(m, g, h, TRY)) return true;
            for (int part = BLOCK; part <= lastPart(m, h); part++) if (areAllIn(m, g, h, part)) return true;
            for (int part = BLOCK; part <= lastPart(m, g); part++) if (areAllIn(m, h, g, part)) return true;
            return false;
        }

        private boolean haveSameTry(int m, int g, int h) {
            if (methods.part(m, g, KIND) > FILTER || methods.part(m, h, KIND) > FILTER) return false;
            return methods.part(m, g, FROM) == methods.part(m, h, FROM) && methods.part(m, g, TO) == methods.part(m, h, TO);
        }

        /** Whether a PART of g has an instruction together with one of h; both TRYS count together only if it is told so. */
        private boolean doAnyMeet(int m, int g, int h, boolean withTrys) {
            for (int part = TRY; part <= lastPart(m, g); part++) {
                for (int other = TRY; other <= lastPart(m, h); other++) {
                    if (part == TRY && other == TRY && !withTrys) continue;
                    if (methods.doMeet(m, g, part, h, other)) return true;
                }
            }
            return false;
        }

        /** Whether all PARTS of g lie in that PART of h. */
        private boolean areAllIn(int m, int g, int h, int part) {
            for (int k = TRY; k <= lastPart(m, g); k++) if (!methods.liesIn(m, g, k, h, part)) return false;
            return true;
        }

        // ---- instructions

        private int entry(int m, int p, int k) {
            return entries[(m * MOST_LINES + p) * MOST_STACK + k];
        }

        private static int exprOf(int entry) {
            return entry == NULL_ENTRY ? Need.NO_OBJECT : entry >> 1;
        }

        private static boolean isNear(int entry) {
            return entry != NULL_ENTRY && (entry & 1) == 1;
        }

        /** Looks at an instruction that has a STATE; false with an ERROR. */
        private boolean lookAt(int m, int p) {
            if (!need.read(p)) return fail(m, BAD_NUMBER, p);
            if (!isPartLet(m, p)) return fail(m, BAD_WAY, p);
            int many = lengths[m * MOST_LINES + p];
            boolean isAll = need.operation == RET || need.operation == ENDFILTER;
            if (many < need.many || isAll && many > need.many) return fail(m, BAD_DEPTH, p);
            boolean isOneNear = false;
            for (int k = 0; k < need.many; k++) {
                int given = entry(m, p, many - need.many + k);
                if (!need.isMet(k, exprOf(given))) return fail(m, BAD_ENTRY, p);
                isOneNear = isOneNear || isNear(given);
            }
            int top = many > 0 ? exprOf(entry(m, p, many - 1)) : NONE;
            int under = many > 1 ? exprOf(entry(m, p, many - 2)) : NONE;
            if (!need.isMetByAll(under, top)) return fail(m, BAD_ENTRY, p);
            if (isOneNear && (need.operation == SETARG || need.operation == RET)) return fail(m, BAD_NEAR, p);
            if (!layRow(m, p, many, isOneNear)) return fail(m, BAD_DEPTH, p);
            listWays(m, p);
            for (int k = 0; k < ways; k++) {
                if (wayError[k] != 0) return fail(m, wayError[k], p);
                if (!merge(m, wayTo[k], wayBrings[k])) return fail(m, BAD_MERGE, wayTo[k]);
            }
            return true;
        }

        private boolean isPartLet(int m, int p) {
            int operation = need.operation;
            if (operation != RET && operation != ENDFINALLY && operation != ENDFILTER) return true;
            int at = methods.partAt(m, p);
            if (operation == RET || at == NONE) return operation == RET && at == NONE;
            int part = at % PARTS;
            if (operation == ENDFILTER) return part == TEST;
            return part == BLOCK && methods.part(m, at / PARTS, KIND) >= FINALLY;
        }

        /** Lays what lies on the stack behind the instruction; false, if that is too much. */
        private boolean layRow(int m, int p, int many, boolean isOneNear) {
            boolean isEmptied = need.operation == LEAVE || need.operation == ENDFINALLY;
            int rest = isEmptied ? 0 : many - need.many;
            int more = need.operation == DUP ? 2 : need.left == Need.NOTHING ? 0 : 1;
            if (rest + more > MOST_STACK) return false;
            for (int k = 0; k < rest; k++) row[k] = entry(m, p, k);
            int left = need.operation == DUP ? entry(m, p, rest) : leftEntry(isOneNear);
            for (int k = rest; k < rest + more; k++) row[k] = left;
            rowMany = rest + more;
            return true;
        }

        private int leftEntry(boolean isOneNear) {
            if (need.left < 0 || pool.sort(need.left) != PLACE_OF) return need.left == Need.NO_OBJECT ? NULL_ENTRY : need.left * 2;
            boolean isLeftNear = need.nearness == Need.NEAR || need.nearness == Need.AS_GIVEN && isOneNear;
            return need.left * 2 + (isLeftNear ? 1 : 0);
        }

        // ---- ways

        private void addWay(int to, int brings, int error) {
            wayTo[ways] = to;
            wayBrings[ways] = brings;
            wayError[ways] = error;
            ways++;
        }

        /** Lists where an instruction leads: the HANDLERS at its place, the next one, the one it tells. */
        private void listWays(int m, int p) {
            ways = 0;
            for (int h = 0; h < methods.fact(m, HANDLERS); h++) {
                if (!methods.isIn(m, h, TRY, p)) continue;
                int kind = methods.part(m, h, KIND);
                int with = methods.part(m, h, WITH);
                if (kind == FILTER) addWay(with, FAULT * 2, 0);
                addWay(methods.part(m, h, AT_PLACE), kind == CATCH ? with * 2 : kind == FILTER ? FAULT * 2 : NOTHING, 0);
            }
            switch (need.operation) {
                case RET: case THROW: case ENDFINALLY: case ENDFILTER: return;
                case GO: case LEAVE: break;
                default:
                    boolean isLast = p + 1 >= methods.fact(m, LINES);
                    addWay(p + 1, ALL_OF_IT, isLast ? BAD_END : isWayLet(m, p, p + 1) ? 0 : BAD_WAY);
                    break;
            }
            switch (need.operation) {
                case GO: case IF: case IFNOT: case LEAVE:
                    addWay(need.a, ALL_OF_IT, isWayLet(m, p, need.a) ? 0 : BAD_WAY);
                    break;
                default: break;
            }
        }

        private boolean isWayLet(int m, int p, int q) {
            for (int h = 0; h < methods.fact(m, HANDLERS); h++) {
                boolean isCaught = methods.part(m, h, KIND) <= FILTER;
                for (int part = TRY; part <= TEST; part++) {
                    boolean hasThis = methods.isIn(m, h, part, p);
                    boolean hasThat = methods.isIn(m, h, part, q);
                    boolean canBeLeft = need.operation == LEAVE && (part == TRY || part == BLOCK && isCaught);
                    if (hasThis && !hasThat && !canBeLeft) return false;
                    boolean canBeEntered = part == TRY && methods.partFrom(m, h, TRY) == q && rowMany == 0;
                    if (hasThat && !hasThis && !canBeEntered) return false;
                }
            }
            return true;
        }

        /** MERGES what a way brings with the STATE of q; false, if it does not go together: then that stays as it was. */
        private boolean merge(int m, int q, int brings) {
            int at = m * MOST_LINES + q;
            int many = brings == ALL_OF_IT ? rowMany : brings == NOTHING ? 0 : 1;
            boolean isNew = lengths[at] == NONE;
            if (!isNew && lengths[at] != many) return false;
            for (int k = 0; k < many; k++) {
                int with = brings == ALL_OF_IT ? row[k] : brings;
                merged[k] = isNew ? with : common(entry(m, q, k), with);
                if (merged[k] == NO_ENTRY) return false;
            }
            boolean isOther = isNew;
            for (int k = 0; k < many; k++) {
                if (!isNew && entry(m, q, k) == merged[k]) continue;
                entries[at * MOST_STACK + k] = merged[k];
                isOther = true;
            }
            lengths[at] = many;
            waits[q] = waits[q] || isOther;
            hasChanged = hasChanged || isOther;
            return true;
        }

        private int common(int one, int other) {
            if (one == other) return one;
            if (one == NULL_ENTRY) return types.isReference(other >> 1) ? other : NO_ENTRY;
            if (other == NULL_ENTRY) return types.isReference(one >> 1) ? one : NO_ENTRY;
            if (one >> 1 == other >> 1) return one | 1;
            if (!types.isReference(one >> 1) || !types.isReference(other >> 1)) return NO_ENTRY;
            for (int b = one >> 1; b != NONE; b = types.baseOf(b)) {
                for (int c = other >> 1; c != NONE; c = types.baseOf(c)) if (b == c) return b * 2;
            }
            return NO_ENTRY;
        }
    }

    /** One that runs a METHOD, or the TEST of a HANDLER of it. It is used again when it has gone. */
    static final class Frame {
        // What a BLOCK is done for: a second go or a "leave".
        static final int GO_ON = 1, LEAVING = 2;
        // A row for each HANDLER: what its BLOCK is done for, where the FRAME was then, the FAULT or where to go, who is meant.
        static final int WHY = 0, WHERE = 1, WHAT = 2, MEANT_FRAME = 3, MEANT_HANDLER = 4, DUTY = 5;

        int method;
        int holder;
        int place;
        int body;
        // The FRAME that has the PARAMETERS and LOCALS: another one for a TEST, otherwise itself.
        int owner;
        // Of a TEST the HANDLER (NONE of others), its FAULT, and the FRAME that the HANDLER stands in.
        int test;
        int fault;
        int seeker;
        // The stack: where its cells end, how many entries it has, of which types they are and where they lie.
        int end;
        int many;
        final int[] type = new int[MOST_STACK];
        final int[] at = new int[MOST_STACK];
        // PARAMETERS, then LOCALS: their types and where they lie.
        final int[] slotType = new int[MOST_GIVEN + 1 + MOST_LOCALS];
        final int[] slotAt = new int[MOST_GIVEN + 1 + MOST_LOCALS];
        final int[] duties = new int[MOST_HANDLERS * DUTY];

        int duty(int h, int what) {
            return duties[h * DUTY + what];
        }

        void take(int h, int why, int where, int what, int meantFrame, int meantHandler) {
            duties[h * DUTY + WHY] = why;
            duties[h * DUTY + WHERE] = where;
            duties[h * DUTY + WHAT] = what;
            duties[h * DUTY + MEANT_FRAME] = meantFrame;
            duties[h * DUTY + MEANT_HANDLER] = meantHandler;
        }

        void drop(int h) {
            duties[h * DUTY + WHY] = 0;
        }

        /** From the top of the stack on, 0 for that on top: where it lies. */
        int atTop(int k) {
            return at[many - 1 - k];
        }

        int typeTop(int k) {
            return type[many - 1 - k];
        }

        /** The last entries go. */
        void pop(int count) {
            if (count <= 0) return;
            many -= count;
            end = at[many];
        }
    }

    /** The FRAMES of a run, the lowest one first, and their cells. */
    static final class Frames {
        private static final int FIRST_LOCAL = MOST_GIVEN + 1;
        final Methods methods;
        final Types types;
        final Pool pool;
        final Frame[] all = new Frame[MOST_FRAMES];
        int[] cells = new int[256];
        int depth;

        Frames(Methods methods) {
            this.methods = methods;
            this.types = methods.types;
            this.pool = methods.pool;
            for (int k = 0; k < MOST_FRAMES; k++) all[k] = new Frame();
        }

        Frame top() {
            return all[Math.max(depth - 1, 0)];
        }

        /** One more on top, where there is room for it, with all its PARAMETERS and LOCALS 0 or NULL. */
        Frame open(int m, int holder) {
            int end = depth == 0 ? 0 : all[depth - 1].end;
            Frame f = all[depth];
            f.method = m;
            f.holder = holder;
            f.place = 0;
            f.owner = depth;
            f.test = NONE;
            f.many = 0;
            Arrays.fill(f.duties, 0);
            int with = pool.argumentOf(holder);
            boolean hasThis = methods.fact(m, MODE) != STATIC;
            int k = 0;
            if (hasThis) f.slotType[k++] = types.isReference(holder) ? holder : pool.make(PLACE_OF, holder, NONE);
            for (int g = 0; g < methods.fact(m, GIVEN); g++) f.slotType[k++] = pool.forArgument(methods.givenExpr(m, g), with);
            for (int g = 0; g < k; g++) end = laySlot(f, g, end);
            for (int l = 0; l < methods.fact(m, LOCALS); l++) {
                f.slotType[FIRST_LOCAL + l] = pool.forArgument(methods.localExpr(m, l), with);
                end = laySlot(f, FIRST_LOCAL + l, end);
            }
            f.end = end;
            depth++;
            return f;
        }

        private int laySlot(Frame f, int slot, int at) {
            int size = types.cells(f.slotType[slot]);
            grow(at + size);
            f.slotAt[slot] = at;
            Arrays.fill(cells, at, at + size, 0);
            return at + size;
        }

        /** One more on top for the TEST of h, with the PARAMETERS and LOCALS of the FRAME that has h. */
        void openTest(int seeker, int h, int fault, int typeOfFault) {
            Frame under = all[seeker];
            Frame f = all[depth];
            f.method = under.method;
            f.holder = under.holder;
            f.body = under.body;
            f.place = methods.part(under.method, h, WITH);
            f.owner = under.owner;
            f.test = h;
            f.fault = fault;
            f.seeker = seeker;
            f.many = 0;
            f.end = all[depth - 1].end;
            Arrays.fill(f.duties, 0);
            depth++;
            cells[push(f, typeOfFault, 1)] = fault;
        }

        private void grow(int size) {
            if (size > cells.length) cells = Arrays.copyOf(cells, Math.max(size, cells.length * 2));
        }

        /** Room for one more entry; where it lies. */
        int push(Frame f, int type, int size) {
            int at = f.end;
            grow(at + size);
            f.type[f.many] = type;
            f.at[f.many] = at;
            f.many++;
            f.end = at + size;
            return at;
        }

        /** Where a LOCAL (or, with isLocal false, a PARAMETER) stands in the slots of its FRAME. */
        static int slot(boolean isLocal, int k) {
            return isLocal ? FIRST_LOCAL + k : k;
        }

        /** How many PARAMETERS, LOCALS or entries of its stack a FRAME has (0, 1, 2). */
        int values(int frame, int what) {
            Frame f = all[frame];
            return what == 0 ? methods.parameters(f.method) : what == 1 ? methods.fact(f.method, LOCALS) : f.many;
        }
    }

    /** The THINGS, which lie in one row of cells, with gaps between; the STATICS; the PINS. */
    static final class Memory {
        // So much that the THINGS which can be reached at once always find a gap, wherever the PINS lie.
        private static final int HEAP = 3200;
        private static final int THINGS = MOST_STEPS + 2;
        private static final int IN_FRAMES = 0, IN_STATICS = -1;

        final Types types;
        final Frames frames;
        final int[] heap = new int[HEAP];
        private final int[] old = new int[HEAP];
        final int[] where = new int[THINGS];
        final int[] size = new int[THINGS];
        int made;
        int uncaught;
        private final int[] gapFrom = new int[MOST_PINS + 1];
        private final int[] gapEnd = new int[MOST_PINS + 1];
        private int gaps;
        final int[] pin = new int[MOST_PINS];
        final int[] pinAt = new int[MOST_PINS];
        int pins;
        int[] statics = new int[64];
        final int[] staticField = new int[MOST_STEPS];
        final int[] staticOf = new int[MOST_STEPS];
        final int[] staticAt = new int[MOST_STEPS];
        int staticMany;
        int staticEnd;

        Memory(Frames frames) {
            this.types = frames.types;
            this.frames = frames;
        }

        void begin() {
            made = 0;
            uncaught = 0;
            pins = 0;
            staticMany = 0;
            staticEnd = 0;
            findGaps();
        }

        // ---- THINGS

        int typeOf(int thing) {
            return heap[where[thing]];
        }

        /** A part of a THING behind its type and number. */
        int cell(int thing, int k) {
            return heap[where[thing] + 2 + k];
        }

        void setCell(int thing, int k, int value) {
            heap[where[thing] + 2 + k] = value;
        }

        /** A new THING, all its cells 0; its number. */
        int create(int type, int cells) {
            int at = takeGap(cells);
            if (made + 1 < THINGS) made++;
            where[made] = at;
            size[made] = cells;
            Arrays.fill(heap, at, at + cells, 0);
            heap[at] = type;
            heap[at + 1] = made;
            return made;
        }

        private int takeGap(int cells) {
            for (int g = 0; g < gaps; g++) {
                if (gapEnd[g] - gapFrom[g] < cells) continue;
                gapFrom[g] += cells;
                return gapFrom[g] - cells;
            }
            return 0;
        }

        /** Whether one more THING might find no gap. */
        boolean isLow() {
            for (int g = 0; g < gaps; g++) if (gapEnd[g] - gapFrom[g] >= MOST_LIMIT) return false;
            return true;
        }

        /** All cells but those of PINS are gaps; the first cell is none, so that no THING lies at 0. */
        private void findGaps() {
            int from = 1;
            gaps = 0;
            for (int n = 0; n <= MOST_PINS; n++) {
                int next = NONE;
                for (int k = 0; k < pins; k++) {
                    int at = where[pin[k]];
                    if (at >= from && (next == NONE || at < where[next])) next = pin[k];
                }
                gapFrom[gaps] = from;
                gapEnd[gaps] = next == NONE ? HEAP : where[next];
                gaps++;
                if (next == NONE) return;
                from = where[next] + size[next];
            }
        }

        /** Those that are not kept go; all others but PINS move, the lower gaps first. */
        void compact(boolean[] isKept) {
            System.arraycopy(heap, 0, old, 0, HEAP);
            findGaps();
            for (int n = 1; n <= made; n++) {
                if (where[n] == 0 || isPin(n)) continue;
                int to = isKept[n] ? takeGap(size[n]) : 0;
                if (isKept[n]) System.arraycopy(old, where[n], heap, to, size[n]);
                where[n] = to;
            }
        }

        boolean isPin(int thing) {
            for (int k = 0; k < pins; k++) if (pin[k] == thing) return true;
            return false;
        }

        void addPin(int thing) {
            if (thing == 0 || pins == MOST_PINS) return;
            pin[pins] = thing;
            pinAt[pins] = where[thing];
            pins++;
        }

        // ---- STATICS

        /** Where the FIELD f of x lies; room is made for it as it is asked for first. */
        int staticPlace(int f, int x, int cells) {
            for (int k = 0; k < staticMany; k++) if (staticField[k] == f && staticOf[k] == x) return staticAt[k];
            int at = staticEnd;
            if (at + cells > statics.length) statics = Arrays.copyOf(statics, Math.max(at + cells, statics.length * 2));
            Arrays.fill(statics, at, at + cells, 0);
            staticField[staticMany] = f;
            staticOf[staticMany] = x;
            staticAt[staticMany] = at;
            staticMany++;
            staticEnd = at + cells;
            return at;
        }

        // ---- PLACES: two cells, the THING (or FRAMES, or STATICS) and how far in

        int[] room(int lead) {
            return lead > 0 ? heap : lead == IN_STATICS ? statics : frames.cells;
        }

        int address(int lead, int far) {
            return lead > 0 ? where[lead] + far : far;
        }
    }

    /** What is REACHED: the collections that keep just that, its texts, and whether it is sound. */
    static final class Reach {
        private final Memory memory;
        private final Frames frames;
        private final Types types;
        private final Pool pool;
        final boolean[] isKept = new boolean[Memory.THINGS];
        private final int[] queue = new int[Memory.THINGS];
        private final StringBuilder own = new StringBuilder();
        private final int[] layType = new int[MOST_FIELDS + 1];
        private final int[] layAt = new int[MOST_FIELDS + 1];
        int many;
        int cells;

        Reach(Memory memory) {
            this.memory = memory;
            this.frames = memory.frames;
            this.types = memory.types;
            this.pool = memory.types.pool;
        }

        /** Marks what is REACHED; its CELLS. */
        int mark() {
            for (int n = 0; n < isKept.length; n++) isKept[n] = false;
            many = 0;
            cells = 0;
            note(memory.uncaught);
            for (int k = 0; k < frames.depth; k++) markFrame(k);
            for (int k = 0; k < memory.pins; k++) note(memory.pin[k]);
            for (int k = 0; k < memory.staticMany; k++) {
                int type = pool.forArgument(types.fieldExpr(memory.staticField[k]), pool.argumentOf(memory.staticOf[k]));
                follow(type, memory.statics, memory.staticAt[k]);
            }
            for (int k = 0; k < many; k++) markThing(queue[k]);
            return cells;
        }

        private void note(int thing) {
            if (thing <= 0 || thing > memory.made || isKept[thing]) return;
            isKept[thing] = true;
            queue[many++] = thing;
            cells += memory.size[thing];
        }

        private void markFrame(int k) {
            Frame f = frames.all[k];
            for (int what = 0; what <= 1 && f.owner == k; what++) {
                for (int v = 0; v < frames.values(k, what); v++) {
                    int slot = Frames.slot(what == 1, v);
                    follow(f.slotType[slot], frames.cells, f.slotAt[slot]);
                }
            }
            for (int e = 0; e < f.many; e++) follow(f.type[e], frames.cells, f.at[e]);
            if (f.test != NONE) note(f.fault);
            for (int h = 0; h < MOST_HANDLERS; h++) if (f.duty(h, Frame.WHY) == Frame.GO_ON) note(f.duty(h, Frame.WHAT));
        }

        /** What a value leads to. (A STRUCT has only such of smaller numbers in it, so this comes to an end.) */
        private void follow(int type, int[] room, int at) {
            if (type == INT) return;
            if (types.kindOf(type) != STRUCT) {
                note(room[at]);
                return;
            }
            int place = at;
            for (int f = 0; f < types.fields; f++) {
                if (!types.isPart(f, pool.typeOf(type))) continue;
                follow(types.fieldExpr(f), room, place);
                place += types.cells(types.fieldExpr(f));
            }
        }

        private void markThing(int n) {
            int at = memory.where[n];
            int type = memory.heap[at];
            if (types.isValue(type)) {
                follow(type, memory.heap, at + 2);
            } else if (pool.sort(type) == ROW_OF) {
                int of = pool.inner(type);
                for (int k = 0; k < memory.cell(n, 0); k++) follow(of, memory.heap, at + 3 + k * types.cells(of));
            } else if (types.kindOf(type) == DELEGATE) {
                note(memory.cell(n, 2));
            } else {
                int fields = types.layOut(type, layType, layAt);
                for (int k = 0; k < fields; k++) follow(layType[k], memory.heap, at + layAt[k]);
            }
        }

        /** A collection; CELLS of what is REACHED. */
        int gather() {
            mark();
            memory.compact(isKept);
            return cells;
        }

        boolean isReached(int thing) {
            return thing > 0 && thing <= memory.made && isKept[thing];
        }

        /** The number of the k-th one that is REACHED, or NONE. */
        int number(int k) {
            int left = k;
            for (int n = 1; n <= memory.made && left >= 0; n++) {
                if (!isKept[n]) continue;
                if (left == 0) return n;
                left--;
            }
            return NONE;
        }

        // ---- values and THINGS as texts

        /** A PARAMETER, a LOCAL or an entry of the stack (0, 1, 2) of a FRAME. */
        void tellEntry(StringBuilder text, int frame, int what, int k) {
            Frame f = frames.all[frame];
            Frame owner = frames.all[f.owner];
            int slot = Frames.slot(what == 1, k);
            if (what == 2) tellValue(text, f.type[k], frames.cells, f.at[k]);
            else tellValue(text, owner.slotType[slot], frames.cells, owner.slotAt[slot]);
        }

        /** (A PLACE leads to no PLACE, and a STRUCT has only such of smaller numbers in it, so this comes to an end.) */
        private void tellValue(StringBuilder text, int type, int[] room, int at) {
            if (type == INT) {
                text.append(room[at]);
            } else if (pool.sort(type) == PLACE_OF) {
                text.append('&');
                tellValue(text, pool.inner(type), memory.room(room[at]), memory.address(room[at], room[at + 1]));
            } else if (types.kindOf(type) != STRUCT && room[at] == 0) {
                text.append("null");
            } else if (types.kindOf(type) != STRUCT) {
                pool.tell(text, memory.typeOf(room[at]));
                text.append('#').append(room[at]);
            } else {
                text.append('(');
                int place = at;
                for (int f = 0; f < types.fields; f++) {
                    if (!types.isPart(f, pool.typeOf(type))) continue;
                    if (place > at) text.append(',');
                    tellValue(text, types.fieldExpr(f), room, place);
                    place += types.cells(types.fieldExpr(f));
                }
                text.append(')');
            }
        }

        void tellThing(StringBuilder text, int thing) {
            int at = memory.where[thing];
            int type = memory.heap[at];
            if (types.isValue(type)) {
                text.append('<');
                tellValue(text, type, memory.heap, at + 2);
                text.append('>');
            } else if (pool.sort(type) == ROW_OF) {
                tellRow(text, thing);
            } else if (types.kindOf(type) == DELEGATE) {
                text.append('m').append(memory.cell(thing, 0)).append('(');
                if (memory.cell(thing, 2) != 0) tellValue(text, OBJECT, memory.heap, at + 4);
                text.append(')');
            } else {
                tellObject(text, at, type);
            }
        }

        private void tellRow(StringBuilder text, int row) {
            int of = pool.inner(memory.typeOf(row));
            text.append('[');
            for (int k = 0; k < memory.cell(row, 0); k++) {
                if (k > 0) text.append(',');
                tellValue(text, of, memory.heap, memory.where[row] + 3 + k * types.cells(of));
            }
            text.append(']');
        }

        private void tellObject(StringBuilder text, int at, int type) {
            text.append('{');
            int fields = types.layOut(type, layType, layAt);
            for (int k = 0; k < fields; k++) {
                if (k > 0) text.append(',');
                tellValue(text, layType[k], memory.heap, at + layAt[k]);
            }
            text.append('}');
        }

        /** A number that tells of a change of any text of a value or of a THING that is REACHED. */
        private long sumOfTexts() {
            long sum = 0;
            for (int f = 0; f < frames.depth; f++) {
                for (int what = 0; what <= 2; what++) {
                    for (int k = 0; k < frames.values(f, what); k++) {
                        own.setLength(0);
                        tellEntry(own, f, what, k);
                        sum = added(sum);
                    }
                }
            }
            for (int n = 1; n <= memory.made; n++) {
                if (!isKept[n]) continue;
                own.setLength(0);
                tellThing(own, n);
                sum = added(sum * 31 + n);
            }
            return sum;
        }

        private long added(long sum) {
            long all = sum;
            for (int k = 0; k < own.length(); k++) all = all * 31 + own.charAt(k);
            return all;
        }

        // ---- whether the memory is sound

        private boolean isThing(int n) {
            return n > 0 && n <= memory.made && memory.where[n] > 0 && memory.heap[memory.where[n] + 1] == n;
        }

        /** Whether what lies there is a value of that type; a PLACE has to lead to one of its own. */
        private boolean fits(int type, int[] room, int at) {
            if (type == INT) return true;
            if (pool.sort(type) == PLACE_OF) {
                return leadsIn(room[at], room[at + 1], types.cells(pool.inner(type)))
                    && fits(pool.inner(type), memory.room(room[at]), memory.address(room[at], room[at + 1]));
            }
            if (types.kindOf(type) != STRUCT) {
                if (room[at] == 0) return true;
                if (!isThing(room[at])) return false;
                int of = memory.typeOf(room[at]);
                return types.isBoxOf(of, type) || types.isUnder(of, type);
            }
            int place = at;
            for (int f = 0; f < types.fields; f++) {
                if (!types.isPart(f, pool.typeOf(type))) continue;
                if (!fits(types.fieldExpr(f), room, place)) return false;
                place += types.cells(types.fieldExpr(f));
            }
            return true;
        }

        private boolean leadsIn(int lead, int far, int size) {
            if (lead > 0) return isThing(lead) && far >= 2 && far + size <= memory.size[lead];
            int most = lead == Memory.IN_STATICS ? memory.staticEnd : frames.depth > 0 ? frames.top().end : 0;
            return far >= 0 && far + size <= most;
        }

        private boolean isFrameFit(int k) {
            Frame f = frames.all[k];
            for (int what = 0; what <= 1 && f.owner == k; what++) {
                for (int v = 0; v < frames.values(k, what); v++) {
                    int slot = Frames.slot(what == 1, v);
                    if (!fits(f.slotType[slot], frames.cells, f.slotAt[slot])) return false;
                }
            }
            for (int e = 0; e < f.many; e++) if (!fits(f.type[e], frames.cells, f.at[e])) return false;
            return true;
        }

        private boolean isThingFit(int n) {
            if (!isThing(n)) return false;
            int at = memory.where[n];
            int type = memory.heap[at];
            if (types.isValue(type)) return fits(type, memory.heap, at + 2);
            if (pool.sort(type) == ROW_OF) {
                int of = pool.inner(type);
                for (int k = 0; k < memory.cell(n, 0); k++) if (!fits(of, memory.heap, at + 3 + k * types.cells(of))) return false;
                return true;
            }
            if (types.kindOf(type) == DELEGATE) return fits(OBJECT, memory.heap, at + 4);
            int fields = types.layOut(type, layType, layAt);
            for (int k = 0; k < fields; k++) if (!fits(layType[k], memory.heap, at + layAt[k])) return false;
            return true;
        }

        private boolean liesApart(int n) {
            for (int k = n + 1; k <= memory.made; k++) {
                if (!isKept[k]) continue;
                int low = Math.max(memory.where[n], memory.where[k]);
                if (low < Math.min(memory.where[n] + memory.size[n], memory.where[k] + memory.size[k])) return false;
            }
            return true;
        }

        private boolean areStaticsFit() {
            for (int k = 0; k < memory.staticMany; k++) {
                int type = pool.forArgument(types.fieldExpr(memory.staticField[k]), pool.argumentOf(memory.staticOf[k]));
                if (!fits(type, memory.statics, memory.staticAt[k])) return false;
            }
            return true;
        }

        /**
         * Whether all values are of their types, all THINGS lie apart, and PINS lie where they lay; also behind a
         * collection, which changes nothing that is told of them.
         */
        boolean isWell() {
            long before = 0;
            for (int round = 0; round < 2; round++) {
                mark();
                for (int k = 0; k < frames.depth; k++) if (!isFrameFit(k)) return false;
                for (int n = 1; n <= memory.made; n++) if (isKept[n] && !(isThingFit(n) && liesApart(n))) return false;
                for (int k = 0; k < memory.pins; k++) if (memory.where[memory.pin[k]] != memory.pinAt[k]) return false;
                if (!areStaticsFit()) return false;
                long sum = sumOfTexts();
                if (round == 1) return sum == before;
                before = sum;
                memory.compact(isKept);
            }
            return true;
        }
    }

    /**
     * The instruction that is done next: read from the METHOD as it is (WAY 0), or fetched from a BODY (WAY 1), in which
     * types, places of FIELDS and CELLS are found out ahead. In a BODY that is SHARED T stands for each REFERENCE; what
     * has T in it is told FOR the HOLDER as it is fetched.
     */
    static final class Words {
        private static final int OPERATION = 0, NUMBER = 1, EXPR = 2, VALUE = 3, FAR = 4, SIZE = 5, WORD = 6;
        private static final int MOST_BODIES = MOST_STEPS + 1;

        private final Methods methods;
        private final Types types;
        private final Pool pool;
        int operation;
        int a;
        int x;
        int v;
        int at;
        int size;
        private boolean areShared;
        private final int[] bodyMethod = new int[MOST_BODIES];
        private final int[] bodyArgument = new int[MOST_BODIES];
        private final int[] bodyAt = new int[MOST_BODIES];
        private int[] words = new int[512];
        private int wordsEnd;
        int bodies;

        Words(Methods methods) {
            this.methods = methods;
            this.types = methods.types;
            this.pool = methods.pool;
        }

        void begin(boolean areShared) {
            this.areShared = areShared;
            bodies = 0;
            wordsEnd = 0;
        }

        /** The BODY of a METHOD for the ARGUMENT of a HOLDER; T is the one of all that are REFERENCES. */
        int bodyOf(int m, int with) {
            int argument = areShared && with != NONE && types.isReference(with) ? T : with;
            for (int k = 0; k < bodies; k++) if (bodyMethod[k] == m && bodyArgument[k] == argument) return k;
            if (bodies == MOST_BODIES) return NONE;
            bodyMethod[bodies] = m;
            bodyArgument[bodies] = argument;
            bodyAt[bodies] = NONE;
            return bodies++;
        }

        boolean isMade(int body) {
            return bodyAt[body] != NONE;
        }

        void makeBody(int body) {
            int m = bodyMethod[body];
            int with = bodyArgument[body] == T ? NONE : bodyArgument[body];
            int lines = methods.fact(m, LINES);
            int end = wordsEnd + lines * WORD;
            if (end > words.length) words = Arrays.copyOf(words, Math.max(end, words.length * 2));
            bodyAt[body] = wordsEnd;
            for (int p = 0; p < lines; p++) {
                // What is never come to may tell any numbers; it stands in the BODY as a "nop".
                if (methods.canBeRead(m, p)) read(m, p, with);
                else operation = NOP;
                words[wordsEnd + OPERATION] = operation;
                words[wordsEnd + NUMBER] = a;
                words[wordsEnd + EXPR] = x;
                words[wordsEnd + VALUE] = v;
                words[wordsEnd + FAR] = at;
                words[wordsEnd + SIZE] = size;
                wordsEnd += WORD;
            }
        }

        void fetch(int body, int p, int with) {
            int k = bodyAt[body] + p * WORD;
            operation = words[k + OPERATION];
            a = words[k + NUMBER];
            x = words[k + EXPR] == NONE ? NONE : pool.forArgument(words[k + EXPR], with);
            v = words[k + VALUE] == NONE ? NONE : pool.forArgument(words[k + VALUE], with);
            at = words[k + FAR];
            size = words[k + SIZE];
        }

        void read(int m, int p, int with) {
            operation = methods.operation(m, p);
            a = methods.a(m, p);
            x = NONE;
            v = NONE;
            at = 0;
            size = 0;
            switch (FORM[operation]) {
                case WITH_X:
                    x = pool.forArgument(a, with);
                    v = x;
                    size = operation == MAKE ? types.fieldAt(MOST_FIELDS, x) : types.cells(x);
                    break;
                case WITH_METHOD:
                    x = pool.forArgument(methods.b(m, p), with);
                    break;
                case WITH_FIELD:
                    x = pool.forArgument(methods.b(m, p), with);
                    v = pool.forArgument(types.fieldExpr(a), pool.argumentOf(x));
                    size = types.cells(v);
                    if (operation < GETS) at = types.fieldAt(a, x);
                    break;
                default:
                    break;
            }
        }
    }

    /** What is thrown: who is meant (the first go), and how FRAMES are left (the second go, and "leave"). */
    static final class Faults {
        private static final int RESTS = 0, SEEKS = 1, UNWINDS = 2;

        private final Methods methods;
        private final Types types;
        private final Pool pool;
        private final Memory memory;
        private final Frames frames;
        private int phase;
        private int fault;
        private int from;
        private int next;
        private int place;
        private int meantFrame;
        private int meantHandler;

        Faults(Memory memory) {
            this.memory = memory;
            this.frames = memory.frames;
            this.methods = frames.methods;
            this.types = frames.types;
            this.pool = frames.pool;
        }

        /** A new FAULT with that CODE is thrown in the FRAME on top. */
        void raise(int code) {
            int made = memory.create(FAULT, 3);
            memory.setCell(made, 0, code);
            begin(made);
        }

        private void begin(int thing) {
            Frame f = frames.top();
            f.pop(f.many);
            fault = thing;
            seekFrom(frames.depth - 1, 0);
        }

        private void seekFrom(int frame, int handler) {
            from = frame;
            next = handler;
            phase = SEEKS;
        }

        private void unwindTo(int frame, int handler) {
            meantFrame = frame;
            meantHandler = handler;
            place = frames.top().place;
            next = 0;
            phase = UNWINDS;
        }

        /** "throw", "leave", "endfinally", "endfilter": what fly() goes on with, or a CODE. */
        int act(Frame f, int operation, int a) {
            int cell = f.many > 0 ? frames.cells[f.atTop(0)] : 0;
            switch (operation) {
                case THROW:
                    if (cell == 0) return IS_NULL;
                    begin(cell);
                    break;
                case LEAVE:
                    leave(f, f.place, a, 0);
                    break;
                case ENDFINALLY:
                    endBlock(f);
                    break;
                default:
                    frames.depth--;
                    fault = f.fault;
                    if (cell != 0) unwindTo(f.seeker, f.test);
                    else seekFrom(f.seeker, f.test + 1);
                    break;
            }
            return Machine.MOVED;
        }

        /** Goes on with what is thrown, till an instruction can be done again or no FRAME is left. */
        void fly() {
            for (int n = 0; n < ENOUGH && phase != RESTS; n++) {
                if (phase == SEEKS) seek();
                else unwind();
            }
        }

        private boolean isSeen(Frame f, int h, int p) {
            if (!methods.isIn(f.method, h, TRY, p)) return false;
            return f.test == NONE || methods.liesIn(f.method, h, TRY, f.test, TEST);
        }

        /** The first go, from there on, down to the FRAME of a TEST if there is one. */
        private void seek() {
            int floor = frames.depth - 1;
            while (floor > 0 && frames.all[floor].test == NONE) floor--;
            int type = memory.typeOf(fault);
            int first = next;
            for (int k = from; k >= floor; k--) {
                Frame f = frames.all[k];
                int m = f.method;
                for (int h = first; h < methods.fact(m, HANDLERS); h++) {
                    if (!isSeen(f, h, f.place)) continue;
                    int kind = methods.part(m, h, KIND);
                    if (kind == CATCH && types.isUnder(type, pool.forArgument(methods.part(m, h, WITH), pool.argumentOf(f.holder)))) {
                        unwindTo(k, h);
                        return;
                    }
                    if (kind == FILTER && frames.depth < MOST_FRAMES) {
                        frames.openTest(k, h, fault, type);
                        phase = RESTS;
                        return;
                    }
                }
                first = 0;
            }
            unwindTo(NONE, NONE);
        }

        /** The second go in the FRAME on top: the next BLOCK is begun, or the one that is meant, or the FRAME goes. */
        private void unwind() {
            int k = frames.depth - 1;
            Frame f = frames.all[k];
            int m = f.method;
            int most = k == meantFrame ? meantHandler : methods.fact(m, HANDLERS);
            for (int h = next; h < most; h++) {
                if (methods.part(m, h, KIND) < FINALLY || !isSeen(f, h, place)) continue;
                beginBlock(f, h);
                f.take(h, Frame.GO_ON, place, fault, meantFrame, meantHandler);
                return;
            }
            if (k == meantFrame) {
                beginBlock(f, meantHandler);
                int at = frames.push(f, memory.typeOf(fault), 1);
                frames.cells[at] = fault;
                return;
            }
            frames.depth--;
            if (f.test != NONE) {
                fault = f.fault;
                seekFrom(f.seeker, f.test + 1);
            } else if (frames.depth == 0) {
                memory.uncaught = fault;
                phase = RESTS;
            } else {
                unwindTo(meantFrame, meantHandler);
            }
        }

        /** As a fault goes on in the BLOCK of h, it leaves all BLOCKS in which the TRY of h does not lie. */
        private void beginBlock(Frame f, int h) {
            for (int g = 0; g < methods.fact(f.method, HANDLERS); g++) if (!methods.liesIn(f.method, h, TRY, g, BLOCK)) f.drop(g);
            f.pop(f.many);
            f.place = methods.part(f.method, h, AT_PLACE);
            phase = RESTS;
        }

        /** Goes to a, behind the BLOCKS of the FINALLYS between, from the h-th HANDLER on. */
        private void leave(Frame f, int p, int a, int handler) {
            f.pop(f.many);
            int m = f.method;
            for (int h = handler; h < methods.fact(m, HANDLERS); h++) {
                if (methods.part(m, h, KIND) != FINALLY || !methods.isIn(m, h, TRY, p) || methods.isIn(m, h, TRY, a)) continue;
                f.take(h, Frame.LEAVING, p, a, NONE, NONE);
                f.place = methods.part(m, h, AT_PLACE);
                return;
            }
            f.place = a;
        }

        private void endBlock(Frame f) {
            int h = methods.partAt(f.method, f.place) / PARTS;
            int why = f.duty(h, Frame.WHY);
            int where = f.duty(h, Frame.WHERE);
            int what = f.duty(h, Frame.WHAT);
            f.drop(h);
            if (why == Frame.LEAVING) {
                leave(f, where, what, h + 1);
                return;
            }
            f.pop(f.many);
            fault = what;
            unwindTo(f.duty(h, Frame.MEANT_FRAME), f.duty(h, Frame.MEANT_HANDLER));
            place = where;
            next = h + 1;
        }
    }

    /** One that runs: a run from its begin to its END, or a WALK step by step. */
    static final class Machine {
        // What an instruction tells behind it: a CODE if it can not be done, or one of these.
        static final int ON = 0, MOVED = -1;

        final Methods methods;
        final Types types;
        final Pool pool;
        final Frames frames;
        final Memory memory;
        final Reach reach;
        final Words words;
        final Faults faults;
        int limit;
        int end = NONE;
        private int way;
        private int steps;
        private int code;
        private int result;
        private boolean wantsGathering;
        private final int[] outs = new int[MOST_STEPS];
        private int outMany;
        private int calledMethod;
        private int calledHolder;
        private int thisLead;
        private int thisFar;

        Machine(Methods methods) {
            this.methods = methods;
            this.types = methods.types;
            this.pool = methods.pool;
            this.frames = new Frames(methods);
            this.memory = new Memory(frames);
            this.reach = new Reach(memory);
            this.words = new Words(methods);
            this.faults = new Faults(memory);
        }

        // ---- from outside

        void start(int entry, int way, boolean areShared) {
            this.way = way;
            frames.depth = 0;
            memory.begin();
            words.begin(areShared);
            end = NONE;
            steps = 0;
            code = 0;
            result = 0;
            outMany = 0;
            wantsGathering = false;
            Frame f = frames.open(entry, pool.make(NAMED, methods.fact(entry, TYPE_OF), NONE));
            f.body = way == 1 ? words.bodyOf(entry, NONE) : NONE;
        }

        /** What the ENTRY is given. */
        void give(int a, int b, int c) {
            Frame f = frames.top();
            int given = methods.fact(f.method, GIVEN);
            if (given > 0) frames.cells[f.slotAt[0]] = a;
            if (given > 1) frames.cells[f.slotAt[1]] = b;
            if (given > 2) frames.cells[f.slotAt[2]] = c;
        }

        /** END, CODE, STEPS, RESULT, BODIES. */
        int fact(int what) {
            switch (what) {
                case 0: return end;
                case 1: return code;
                case 2: return steps;
                case 3: return result;
                default: return words.bodies;
            }
        }

        void tellOut(StringBuilder text) {
            for (int k = 0; k < outMany; k++) {
                if (k > 0) text.append(' ');
                text.append(outs[k]);
            }
        }

        void keepTold(int[] told) {
            for (int k = 0; k < 4; k++) told[k] = fact(k);
            told[4] = outMany;
            System.arraycopy(outs, 0, told, RUN_FACTS, outMany);
        }

        boolean toldAs(int[] told) {
            for (int k = 0; k < 4; k++) if (told[k] != fact(k)) return false;
            if (told[4] != outMany) return false;
            for (int k = 0; k < outMany; k++) if (told[RUN_FACTS + k] != outs[k]) return false;
            return true;
        }

        // ---- STEPS

        /** Does so many STEPS, if there is no END before; how many. */
        int goOn(int most) {
            int count = 0;
            while (count < most && end == NONE) {
                Frame f = frames.top();
                int with = pool.argumentOf(f.holder);
                if (way == 0) {
                    words.read(f.method, f.place, with);
                } else {
                    if (!words.isMade(f.body)) words.makeBody(f.body);
                    words.fetch(f.body, f.place, with);
                }
                int operation = words.operation;
                int told;
                if (operation < ADD) told = doSlots(f);
                else if (operation < MAKE) told = doPlain(f);
                else if (operation == MAKE) told = doMake(f);
                else if (operation == BIND) told = doBind(f);
                else if (operation == INVOKE) told = doInvoke(f);
                else if (operation < RET) told = doCall(f);
                else if (operation == RET) told = doReturn(f);
                else if (operation < GETS) told = doField(f);
                else if (operation < BOX) told = doStatic(f);
                else if (operation < ROW) told = doBox(f);
                else if (operation < LOAD) told = doRow(f);
                else if (operation < BIND) told = doPlace(f);
                else if (operation < OUT) told = faults.act(f, operation, words.a);
                else told = doWorld(f);
                if (told > 0) faults.raise(told);
                if (told == ON) f.place++;
                faults.fly();
                count++;
                steps++;
                seeEnd();
                // Things are made ahead of this, so that each of them finds a gap without a collection in between.
                if (wantsGathering || memory.isLow()) reach.gather();
                wantsGathering = false;
            }
            return count;
        }

        private void seeEnd() {
            if (end == NONE && memory.uncaught != 0) {
                end = UNCAUGHT;
                code = memory.cell(memory.uncaught, 0);
            }
            if (end == NONE && steps >= MOST_STEPS) end = CUT;
        }

        // ---- entries of the stack

        private int top(Frame f, int k) {
            return frames.cells[f.atTop(k)];
        }

        private void pushCopy(Frame f, int type, int size, int[] room, int from) {
            int to = frames.push(f, type, size);
            System.arraycopy(room, from, frames.cells, to, size);
        }

        private void pushOne(Frame f, int type, int value) {
            int at = frames.push(f, type, 1);
            frames.cells[at] = value;
        }

        private void pushPlace(Frame f, int type, int lead, int far) {
            int at = frames.push(f, pool.make(PLACE_OF, type, NONE), 2);
            frames.cells[at] = lead;
            frames.cells[at + 1] = far;
        }

        /** In the place of the entries that go one INT or REFERENCE. */
        private int swap(Frame f, int many, int type, int value) {
            f.pop(many);
            pushOne(f, type, value);
            return ON;
        }

        // ---- instructions; each one tells ON, MOVED or a CODE, and with a CODE nothing else is done

        private int doSlots(Frame f) {
            int operation = words.operation;
            if (operation == NUM) pushOne(f, INT, words.a);
            if (operation == NULL) pushOne(f, OBJECT, 0);
            if (operation < ARG) return ON;
            boolean isLocal = operation == LOC || operation == SETLOC || operation == LOCP;
            Frame owner = frames.all[f.owner];
            int slot = Frames.slot(isLocal, words.a);
            int at = owner.slotAt[slot];
            int type = owner.slotType[slot];
            int size = types.cells(type);
            if (operation == ARG || operation == LOC) {
                pushCopy(f, type, size, frames.cells, at);
            } else if (operation == SETARG || operation == SETLOC) {
                System.arraycopy(frames.cells, f.atTop(0), frames.cells, at, size);
                f.pop(1);
            } else {
                pushPlace(f, type, Memory.IN_FRAMES, at);
            }
            return ON;
        }

        private int doPlain(Frame f) {
            switch (words.operation) {
                case GO:
                    f.place = words.a;
                    return MOVED;
                case IF: case IFNOT:
                    boolean goes = (top(f, 0) != 0) == (words.operation == IF);
                    f.pop(1);
                    f.place = goes ? words.a : f.place + 1;
                    return MOVED;
                case DUP:
                    pushCopy(f, f.typeTop(0), f.end - f.atTop(0), frames.cells, f.atTop(0));
                    return ON;
                case POP:
                    f.pop(1);
                    return ON;
                default:
                    return doSum(f);
            }
        }

        private int doSum(Frame f) {
            int p = top(f, 1);
            int q = top(f, 0);
            switch (words.operation) {
                case ADD: return swap(f, 2, INT, p + q);
                case SUB: return swap(f, 2, INT, p - q);
                case MUL: return swap(f, 2, INT, p * q);
                case DIV: return q == 0 ? BY_ZERO : swap(f, 2, INT, p / q);
                case REM: return q == 0 ? BY_ZERO : swap(f, 2, INT, p % q);
                case EQ: return swap(f, 2, INT, p == q ? 1 : 0);
                default: return swap(f, 2, INT, p < q ? 1 : 0);
            }
        }

        private int doWorld(Frame f) {
            switch (words.operation) {
                case OUT:
                    if (outMany < outs.length) outs[outMany++] = top(f, 0);
                    f.pop(1);
                    return ON;
                case CELLS:
                    pushOne(f, INT, reach.mark());
                    return ON;
                case PIN:
                    memory.addPin(top(f, 0));
                    f.pop(1);
                    return ON;
                case UNPIN:
                    if (memory.pins > 0) memory.pins--;
                    return ON;
                case GC:
                    wantsGathering = true;
                    return ON;
                case CODEOF:
                    return top(f, 0) == 0 ? IS_NULL : swap(f, 1, INT, memory.cell(top(f, 0), 0));
                default:
                    if (top(f, 1) == 0) return IS_NULL;
                    memory.setCell(top(f, 1), 0, top(f, 0));
                    f.pop(2);
                    return ON;
            }
        }

        // ---- FIELDS and PLACES

        private int doField(Frame f) {
            int k = words.operation == SET ? 1 : 0;
            int at = f.atTop(k);
            int lead = frames.cells[at];
            int far = words.at;
            boolean isValue = false;
            if (types.kindOf(words.x) == CLASS) {
                if (lead == 0) return IS_NULL;
            } else if (pool.sort(f.typeTop(k)) == PLACE_OF) {
                far += frames.cells[at + 1];
            } else {
                isValue = true;
                lead = Memory.IN_FRAMES;
                far += at;
            }
            int[] room = memory.room(lead);
            int place = memory.address(lead, far);
            if (words.operation == SET) {
                System.arraycopy(frames.cells, f.atTop(0), room, place, words.size);
                f.pop(2);
                return ON;
            }
            f.pop(1);
            if (words.operation == GETP && !isValue) pushPlace(f, words.v, lead, far);
            else pushCopy(f, words.v, words.size, room, place);
            return ON;
        }

        private int doStatic(Frame f) {
            int at = memory.staticPlace(words.a, words.x, words.size);
            if (words.operation == GETS) {
                pushCopy(f, words.v, words.size, memory.statics, at);
            } else if (words.operation == SETS) {
                System.arraycopy(frames.cells, f.atTop(0), memory.statics, at, words.size);
                f.pop(1);
            } else {
                pushPlace(f, words.v, Memory.IN_STATICS, at);
            }
            return ON;
        }

        private int doPlace(Frame f) {
            int k = words.operation == STORE ? 1 : 0;
            int lead = frames.cells[f.atTop(k)];
            int far = frames.cells[f.atTop(k) + 1];
            int[] room = memory.room(lead);
            int place = memory.address(lead, far);
            if (words.operation == STORE) System.arraycopy(frames.cells, f.atTop(0), room, place, words.size);
            if (words.operation == INIT) Arrays.fill(room, place, place + words.size, 0);
            f.pop(k + 1);
            if (words.operation == LOAD) pushCopy(f, words.v, words.size, room, place);
            return ON;
        }

        // ---- THINGS

        private int doMake(Frame f) {
            if (reach.mark() + words.size > limit) return NO_ROOM;
            pushOne(f, words.x, memory.create(words.x, words.size));
            return ON;
        }

        private int doBind(Frame f) {
            int m = words.a;
            boolean hasTarget = methods.fact(m, MODE) != STATIC;
            int holder = NONE;
            int target = hasTarget ? top(f, 0) : 0;
            if (hasTarget) {
                if (target == 0) return IS_NULL;
                int type = memory.typeOf(target);
                int answer = m;
                if (methods.fact(m, MODE) == VIRTUAL) answer = methods.answerOf(type, m, types.baseAt(type, methods.fact(m, TYPE_OF)));
                if (answer != NONE) m = answer;
                holder = types.baseAt(type, methods.fact(m, TYPE_OF));
            } else {
                holder = pool.make(NAMED, methods.fact(m, TYPE_OF), NONE);
            }
            if (reach.mark() + 5 > limit) return NO_ROOM;
            int call = memory.create(words.x, 5);
            memory.setCell(call, 0, m);
            memory.setCell(call, 1, holder);
            memory.setCell(call, 2, target);
            return swap(f, hasTarget ? 1 : 0, words.x, call);
        }

        /** Whether a THING IS OF x. */
        private boolean isOf(int thing, int x) {
            int type = memory.typeOf(thing);
            return type == x || types.isBoxOf(type, x) || types.isUnder(type, x);
        }

        private int doBox(Frame f) {
            int x = words.x;
            int thing = top(f, 0);
            boolean isReference = types.isReference(x);
            switch (words.operation) {
                case BOX:
                    if (isReference) return swap(f, 1, OBJECT, thing);
                    if (reach.mark() + words.size + 2 > limit) return NO_ROOM;
                    int box = memory.create(x, words.size + 2);
                    System.arraycopy(frames.cells, f.atTop(0), memory.heap, memory.where[box] + 2, words.size);
                    return swap(f, 1, OBJECT, box);
                case ISA:
                    boolean isOne = thing != 0 && isOf(thing, x);
                    return swap(f, 1, isReference ? x : OBJECT, isOne ? thing : 0);
                default:
                    break;
            }
            if (isReference) return thing != 0 && !isOf(thing, x) ? NOT_OF : swap(f, 1, x, thing);
            if (thing == 0) return IS_NULL;
            if (memory.typeOf(thing) != x) return NOT_OF;
            f.pop(1);
            if (words.operation == UNBOX) pushPlace(f, x, thing, 2);
            else pushCopy(f, x, words.size, memory.heap, memory.where[thing] + 2);
            return ON;
        }

        private int doRow(Frame f) {
            int operation = words.operation;
            if (operation == ROW) {
                int length = top(f, 0);
                if (length < 0 || length > MOST_ELEMENTS) return NO_LENGTH;
                int cells = 3 + length * words.size;
                if (reach.mark() + cells > limit) return NO_ROOM;
                int type = pool.make(ROW_OF, words.x, NONE);
                int row = memory.create(type, cells);
                memory.setCell(row, 0, length);
                return swap(f, 1, type, row);
            }
            int row = top(f, operation == LEN ? 0 : operation == PUT ? 2 : 1);
            if (row == 0) return IS_NULL;
            int length = memory.cell(row, 0);
            if (operation == LEN) return swap(f, 1, INT, length);
            int k = top(f, operation == PUT ? 1 : 0);
            if (k < 0 || k >= length) return NO_PLACE;
            int of = pool.inner(memory.typeOf(row));
            boolean isReference = types.isReference(words.x);
            int far = 3 + k * words.size;
            if (operation == PUT) {
                if (isReference && top(f, 0) != 0 && !isOf(top(f, 0), of)) return NOT_IN_ROW;
                System.arraycopy(frames.cells, f.atTop(0), memory.heap, memory.where[row] + far, words.size);
                f.pop(3);
                return ON;
            }
            if (operation == ATP && isReference && of != words.x) return NOT_IN_ROW;
            f.pop(2);
            if (operation == ATP) pushPlace(f, words.x, row, far);
            else pushCopy(f, words.x, words.size, memory.heap, memory.where[row] + far);
            return ON;
        }

        // ---- calls

        /** The FRAME of what is called gets THIS and what lies on top of the stack; then so many entries go. */
        private int enter(Frame f, int given, int gone) {
            Frame g = frames.open(calledMethod, calledHolder);
            g.body = way == 1 ? words.bodyOf(calledMethod, pool.argumentOf(calledHolder)) : NONE;
            int first = methods.fact(calledMethod, MODE) == STATIC ? 0 : 1;
            if (first == 1) {
                frames.cells[g.slotAt[0]] = thisLead;
                if (pool.sort(g.slotType[0]) == PLACE_OF) frames.cells[g.slotAt[0] + 1] = thisFar;
            }
            for (int k = 0; k < given; k++) {
                int to = first + k;
                System.arraycopy(frames.cells, f.atTop(given - 1 - k), frames.cells, g.slotAt[to], types.cells(g.slotType[to]));
            }
            f.pop(gone);
            return MOVED;
        }

        private int doCall(Frame f) {
            int given = methods.fact(words.a, GIVEN);
            calledMethod = words.a;
            calledHolder = words.x;
            boolean hasThis = methods.fact(words.a, MODE) != STATIC;
            int told = hasThis ? findThis(f.atTop(given), f.typeTop(given)) : ON;
            if (told != ON) return told;
            if (frames.depth == MOST_FRAMES) return NO_FRAME;
            return enter(f, given, given + (hasThis ? 1 : 0));
        }

        /** Finds what THIS is, and the ANSWER of its type if one is asked for. */
        private int findThis(int at, int type) {
            boolean isPlace = pool.sort(type) == PLACE_OF;
            thisLead = frames.cells[at];
            thisFar = isPlace ? frames.cells[at + 1] : 0;
            int of = isPlace ? pool.inner(type) : type;
            if (isPlace && types.isReference(of)) {
                thisLead = memory.room(thisLead)[memory.address(thisLead, thisFar)];
                isPlace = false;
            }
            if (!isPlace) {
                if (thisLead == 0) return IS_NULL;
                of = memory.typeOf(thisLead);
                thisFar = 2;
            }
            if (words.operation == CALL || methods.fact(calledMethod, MODE) != VIRTUAL) return ON;
            int answer = methods.answerOf(of, calledMethod, calledHolder);
            if (answer == NONE) return NOT_OF;
            calledMethod = answer;
            calledHolder = types.baseAt(of, methods.fact(answer, TYPE_OF));
            return ON;
        }

        private int doInvoke(Frame f) {
            int m = methods.firstOf(pool.typeOf(words.x));
            int given = methods.fact(m, GIVEN);
            int call = top(f, given);
            if (call == 0) return IS_NULL;
            if (frames.depth == MOST_FRAMES) return NO_FRAME;
            calledMethod = memory.cell(call, 0);
            calledHolder = memory.cell(call, 1);
            thisLead = memory.cell(call, 2);
            thisFar = 0;
            return enter(f, given, given + 1);
        }

        private int doReturn(Frame f) {
            int told = methods.fact(f.method, RESULT);
            frames.depth--;
            if (frames.depth == 0) {
                result = told == NONE ? 0 : top(f, 0);
                end = DONE;
                return MOVED;
            }
            Frame g = frames.top();
            int type = told == NONE ? NONE : pool.forArgument(told, pool.argumentOf(f.holder));
            if (told != NONE) pushCopy(g, type, types.cells(type), frames.cells, f.atTop(0));
            g.place++;
            return MOVED;
        }
    }
}
