/**
 * A call that can not be done tells the first reason of those named that is so, exceptions ahead of reasons, and changes
 * nothing: what is made, the last run, the WALK all stay as they were.
 */
public final class RefusedTest {
    private static Cellruntime c;

    // Numbers of EXPRESSIONS in the world: those of the TYPES, and of what else is told of them.
    private static final int I0 = 4, I1T = 5, I1I = 6, I1INT = 7, K2 = 8, K3T = 9, K3I = 10, S4 = 11, S5 = 12, S6 = 13, D7 = 14, PLACE = 15, ROW = 16,
        ROWS = 17, ROWSS = 18, I8 = 19, PLACES = 20, MANY = 21;
    private static final int MIN = Integer.MIN_VALUE, MAX = Integer.MAX_VALUE;

    public static void main(String[] args) {
        world();
        types();
        exprs();
        contracts();
        fields();
        methods();
        slots();
        codes();
        handlers();
        runs();
        walks();
        asked();
        fill();
        full();
        withoutWalk();
        notRight();
        Due.end("RefusedTest");
    }

    private static void is(String call, int want, Due.Call of) {
        String before = Told.all(c);
        Due.fails(call, want, of);
        Due.is(call + " changes nothing", Told.all(c), before);
    }

    private static void fails(String call, Class<?> want, Due.Call of) {
        String before = Told.all(c);
        Due.fails(call, want, of);
        Due.is(call + " changes nothing", Told.all(c), before);
    }

    /** With one of each KIND, METHODS at their limits, a run that was done, and a WALK that GOES ON. */
    private static void world() {
        c = new Cellruntime();
        c.type(2, false, -1, -1);
        c.expr(0, 0, 0);
        c.type(2, true, I0, -1);
        c.expr(1, 1, 3);
        c.expr(1, 1, I0);
        c.expr(1, 1, 0);
        c.type(0, false, -1, 1);
        c.expr(0, 2, 0);
        c.type(0, true, I0, 1);
        c.expr(1, 3, 3);
        c.expr(1, 3, I0);
        for (int t = 4; t <= 6; t++) {
            c.type(1, false, -1, -1);
            c.expr(0, t, 0);
        }
        c.type(3, false, -1, -1);
        c.expr(0, 7, 0);
        c.expr(3, 0, 0);
        c.expr(2, 0, 0);
        c.expr(2, ROW, 0);
        c.expr(2, ROWS, 0);
        c.type(2, false, -1, -1);
        c.expr(0, 8, 0);
        c.expr(3, ROWS, 0);
        Due.is("3 all are there", c.exprs(), MANY);
        c.implement(2, I0);
        c.implement(2, I1I);
        c.implement(3, I0);
        int[] of2 = {0, 1, 0, K2};
        for (int k = 0; k < 4; k++) c.field(2, of2[k], k == 2);
        for (int k = 0; k < 4; k++) c.field(4, 0, false);
        c.field(5, S4, false);
        c.field(5, S4, false);
        c.method(2, 0, 0, 0);
        for (int k = 0; k < 3; k++) c.param(0, 0);
        for (int x : new int[] {1, 0, K2, S5}) c.local(0, x);
        Due.write(c, 0, "make " + K2 + "; setloc 2; loc 2; pin; num 7; out; null; throw; pop; leave 10; num 1; ret");
        for (int p = 12; p < 40; p++) c.code(0, 0, 0, 0);
        c.handler(0, 0, 6, 8, 8, 10);
        c.handler(0, 1, 14, 15, 16, 17);
        c.handles(0, 1, 15);
        c.handler(0, 2, 17, 18, 18, 19);
        c.handler(0, 3, 19, 20, 20, 21);
        c.method(7, 0, 2, 0);
        c.method(8, 0, 2, -1);
        c.method(2, 1, 1, -1);
        Due.write(c, 3, "ret");
        begin();
    }

    private static void begin() {
        Due.is("37 a run", c.run(0, 1, 1, 2, 3), 0);
        Due.is("41 a WALK", c.walk(0, 4, 5, 6), 0);
        Due.is("42 on its way", c.step(5), 5);
        Due.is("54 sound", c.isSound(), true);
    }

    private static void types() {
        for (int kind : new int[] {MIN, -1, 4, MAX}) fails("2 kind " + kind, Due.ARGUMENT, () -> c.type(kind, true, MAX, MAX));
        is("2 a STRUCT that is OPEN", -3, () -> c.type(1, true, -1, -1));
        is("2 -3 ahead of -4", -3, () -> c.type(1, true, MANY, -1));
        is("2 -3 ahead of -5", -3, () -> c.type(1, true, -1, 1));
        for (int kind : new int[] {0, 1, 2, 3}) is("2 a BOUND of what is not OPEN", -4, () -> c.type(kind, false, I0, kind == 0 ? 1 : -1));
        int[] bounds = {MIN, -2, MANY, MAX, 0, 1, 2, 3, K2, K3I, S4, D7, ROW, PLACE, I1T, I1INT};
        for (int bound : bounds) {
            for (int kind : new int[] {0, 2, 3}) is("2 the BOUND " + bound, -4, () -> c.type(kind, true, bound, kind == 0 ? 1 : -1));
            is("2 -4 ahead of -5 for " + bound, -4, () -> c.type(0, true, bound, -1));
        }
        int[] bases = {MIN, -2, -1, MANY, MAX, 0, 3, I0, S4, D7, ROW, PLACE, K3T};
        for (int base : bases) is("2 the BASE " + base, -5, () -> c.type(0, false, -1, base));
        is("2 T without that BOUND", -5, () -> c.type(0, true, -1, K3T));
        is("2 T with another one", -5, () -> c.type(0, true, I8, K3T));
        for (int base : new int[] {MIN, -2, 0, 1, 2, K2, MAX}) for (int kind = 1; kind <= 3; kind++) {
            int k = kind;
            is("2 a BASE of KIND " + kind, -5, () -> c.type(k, false, -1, base));
        }
    }

    private static void exprs() {
        for (int what : new int[] {MIN, -1, 4, MAX}) fails("3 what " + what, Due.ARGUMENT, () -> c.expr(what, MAX, MAX));
        for (int of : new int[] {MIN, -1, 9, MAX}) for (int what = 0; what <= 1; what++) {
            int w = what;
            is("3 the TYPE " + of, -2, () -> c.expr(w, of, 0));
        }
        for (int of : new int[] {MIN, -1, MANY, MAX}) {
            is("3 a ROW of " + of, -2, () -> c.expr(2, of, 0));
            is("3 a PLACE of " + of, -2, () -> c.expr(3, of, 0));
            is("3 the ARGUMENT " + of, -2, () -> c.expr(1, 3, of));
            is("3 -2 ahead of -3 for " + of, -2, () -> c.expr(1, 2, of));
        }
        is("3 OPEN for 0", -3, () -> c.expr(0, 3, 0));
        is("3 not OPEN for 1", -3, () -> c.expr(1, 2, 0));
        is("3 -3 ahead of -4", -3, () -> c.expr(1, 2, PLACE));
        is("3 -3 ahead of -5", -3, () -> c.expr(1, 2, ROWSS));
        is("3 an ARGUMENT that is a PLACE", -4, () -> c.expr(1, 3, PLACE));
        is("3 a ROW of a PLACE", -4, () -> c.expr(2, PLACE, 0));
        is("3 a PLACE of a PLACE", -4, () -> c.expr(3, PLACE, 0));
        is("3 -4 ahead of -5", -4, () -> c.expr(3, PLACES, 0));
        is("3 four deep", -5, () -> c.expr(1, 3, ROWSS));
        is("3 a ROW four deep", -5, () -> c.expr(2, ROWSS, 0));
        is("3 a PLACE four deep", -5, () -> c.expr(3, ROWSS, 0));
        is("3 one that is there", I0, () -> c.expr(0, 0, MAX));
        is("3 one with an ARGUMENT that is there", K3I, () -> c.expr(1, 3, I0));
        is("3 a ROW that is there", ROWSS, () -> c.expr(2, ROWS, MIN));
        is("3 a PLACE that is there", PLACES, () -> c.expr(3, ROWS, -1));
    }

    private static void contracts() {
        for (int type : new int[] {MIN, -1, 9, MAX}) fails("4 the TYPE " + type, Due.INDEX, () -> c.implement(type, MAX));
        is("4 a third one", -2, () -> c.implement(2, I8));
        is("4 -2 ahead of -3", -2, () -> c.implement(2, MAX));
        is("4 -2 ahead of -4", -2, () -> c.implement(2, I1T));
        is("4 -2 ahead of -5", -2, () -> c.implement(2, I0));
        for (int type : new int[] {0, 1, 7, 8}) is("4 of a TYPE that has none", -3, () -> c.implement(type, I0));
        is("4 -3 ahead of -4", -3, () -> c.implement(8, I1INT));
        for (int x : new int[] {MIN, -1, MANY, MAX, 0, 1, 2, 3, K2, K3T, S4, D7, ROW, PLACE}) {
            is("4 the CONTRACT " + x, -3, () -> c.implement(3, x));
            is("4 the CONTRACT " + x + " of a STRUCT", -3, () -> c.implement(6, x));
        }
        is("4 T in a TYPE that is not OPEN", -4, () -> c.implement(6, I1T));
        is("4 an ARGUMENT that does not keep", -4, () -> c.implement(3, I1INT));
        is("4 one that it has", -5, () -> c.implement(3, I0));
    }

    private static void fields() {
        for (int type : new int[] {MIN, -1, 9, MAX}) fails("5 the TYPE " + type, Due.INDEX, () -> c.field(type, MAX, false));
        for (int type : new int[] {0, 1, 7, 8}) for (int x : new int[] {0, MAX}) {
            is("5 of a TYPE that has none", -3, () -> c.field(type, x, false));
            is("5 also STATIC", -3, () -> c.field(type, x, true));
        }
        for (int x : new int[] {MIN, -1, MANY, MAX, PLACE, PLACES}) {
            is("5 the EXPRESSION " + x, -3, () -> c.field(3, x, true));
            is("5 -3 ahead of -5 for " + x, -3, () -> c.field(2, x, false));
            is("5 -3 ahead of -6 for " + x, -3, () -> c.field(5, x, false));
        }
        is("5 T in a TYPE that is not OPEN", -4, () -> c.field(6, 3, true));
        is("5 an ARGUMENT that does not keep", -4, () -> c.field(3, I1INT, false));
        is("5 -4 ahead of -5", -4, () -> c.field(2, 3, false));
        is("5 -4 ahead of -6", -4, () -> c.field(5, 3, false));
        is("5 a fifth one", -5, () -> c.field(2, 0, false));
        is("5 also STATIC", -5, () -> c.field(2, 0, true));
        is("5 -5 ahead of -6", -5, () -> c.field(4, S4, false));
        is("5 itself", -6, () -> c.field(5, S5, false));
        is("5 a later one", -6, () -> c.field(5, S6, false));
        is("5 a ninth CELL", -6, () -> c.field(5, 0, false));
    }

    private static void methods() {
        for (int type : new int[] {MIN, -1, 9, MAX}) fails("6 the TYPE " + type, Due.INDEX, () -> c.method(type, MAX, MAX, MAX));
        for (int n : new int[] {MIN, -1, MAX}) {
            fails("6 the NAME " + n, Due.ARGUMENT, () -> c.method(2, n, 0, MAX));
            fails("6 the MODE " + n, Due.ARGUMENT, () -> c.method(2, 0, n, MAX));
        }
        fails("6 the NAME 10", Due.ARGUMENT, () -> c.method(7, 10, 0, -1));
        fails("6 the MODE 3", Due.ARGUMENT, () -> c.method(7, 0, 3, -1));
        for (int type : new int[] {0, 1, 7, 8}) for (int mode = 0; mode <= 1; mode++) {
            int m = mode;
            is("6 not VIRTUAL", -3, () -> c.method(type, 0, m, -1));
            is("6 -3 ahead of -4", -3, () -> c.method(type, 0, m, MAX));
        }
        is("6 a second one of a DELEGATE", -3, () -> c.method(7, 9, 2, -1));
        is("6 -3 ahead of -4 there", -3, () -> c.method(7, 9, 2, MAX));
        for (int x : new int[] {MIN, -2, MANY, MAX, 3, I1T, I1INT}) is("6 the RESULT " + x, -4, () -> c.method(2, 9, 2, x));
        is("6 an ARGUMENT that does not keep", -4, () -> c.method(3, 0, 0, I1INT));
    }

    private static void slots() {
        for (int m : new int[] {MIN, -1, 4, MAX}) {
            fails("7 the METHOD " + m, Due.INDEX, () -> c.param(m, MAX));
            fails("8 the METHOD " + m, Due.INDEX, () -> c.local(m, MAX));
        }
        is("7 a fourth one", -2, () -> c.param(0, 0));
        is("7 -2 ahead of -4", -2, () -> c.param(0, MAX));
        is("8 a fifth one", -2, () -> c.local(0, 0));
        is("8 -2 ahead of -4", -2, () -> c.local(0, MAX));
        for (int x : new int[] {MIN, -1, MANY, MAX, 3, I1T, I1INT}) {
            for (int m = 1; m <= 3; m++) {
                int n = m;
                is("7 the EXPRESSION " + x, -4, () -> c.param(n, x));
                is("8 the EXPRESSION " + x, n == 3 ? -4 : -3, () -> c.local(n, x));
            }
        }
        is("8 a PLACE", -4, () -> c.local(3, PLACE));
        is("8 of a DELEGATE", -3, () -> c.local(1, 0));
        is("8 of an INTERFACE", -3, () -> c.local(2, 0));
    }

    private static void codes() {
        for (int m : new int[] {MIN, -1, 4, MAX}) {
            fails("9 the METHOD " + m, Due.INDEX, () -> c.code(m, MAX, 0, 0));
            fails("10 the METHOD " + m, Due.INDEX, () -> c.change(m, MAX, MAX, 0, 0));
            fails("11 the METHOD " + m, Due.INDEX, () -> c.cut(m, MAX));
        }
        for (int operation : new int[] {MIN, -1, 58, MAX}) {
            for (int m = 0; m <= 3; m++) {
                int n = m;
                fails("9 the operation " + operation, Due.ARGUMENT, () -> c.code(n, operation, 0, 0));
            }
            fails("10 the operation " + operation, Due.ARGUMENT, () -> c.change(0, 39, operation, 0, 0));
            fails("10 no place ahead of " + operation, Due.INDEX, () -> c.change(0, 40, operation, 0, 0));
        }
        is("9 a 41st", -2, () -> c.code(0, 0, 0, 0));
        is("9 of a DELEGATE", -3, () -> c.code(1, 0, 0, 0));
        is("9 of an INTERFACE", -3, () -> c.code(2, 57, 0, 0));
        for (int place : new int[] {MIN, -1, 40, MAX}) fails("10 the place " + place, Due.INDEX, () -> c.change(0, place, 0, 0, 0));
        fails("10 the place 1 of one", Due.INDEX, () -> c.change(3, 1, 0, 0, 0));
        fails("10 the place 0 of none", Due.INDEX, () -> c.change(2, 0, 0, 0, 0));
        for (int many : new int[] {MIN, -1, 41, MAX}) fails("11 many " + many, Due.ARGUMENT, () -> c.cut(0, many));
        fails("11 two of one", Due.ARGUMENT, () -> c.cut(3, 2));
        fails("11 one of none", Due.ARGUMENT, () -> c.cut(1, 1));
    }

    private static void handlers() {
        for (int m : new int[] {MIN, -1, 4, MAX}) {
            fails("12 the METHOD " + m, Due.INDEX, () -> c.handler(m, MAX, 0, 0, 0, 0));
            fails("13 the METHOD " + m, Due.INDEX, () -> c.handles(m, 0, MAX));
            fails("14 the METHOD " + m, Due.INDEX, () -> c.unhandle(m));
        }
        for (int kind : new int[] {MIN, -1, 4, MAX}) for (int m = 0; m <= 3; m++) {
            int n = m;
            fails("12 the KIND " + kind, Due.ARGUMENT, () -> c.handler(n, kind, 0, 0, 0, 0));
        }
        for (int k = 0; k < 4; k++) for (int place : new int[] {MIN, -1, 41, MAX}) for (int m = 0; m <= 3; m++) {
            int n = m;
            int[] p = {0, 1, 1, 2};
            p[k] = place;
            fails("12 the place " + place, Due.ARGUMENT, () -> c.handler(n, 0, p[0], p[1], p[2], p[3]));
        }
        is("12 a fifth one", -2, () -> c.handler(0, 0, 0, 1, 1, 2));
        is("12 of a DELEGATE", -3, () -> c.handler(1, 3, 40, 40, 40, 40));
        is("12 of an INTERFACE", -3, () -> c.handler(2, 0, 0, 0, 0, 0));
        for (int h : new int[] {MIN, -1, 4, MAX}) fails("13 the HANDLER " + h, Due.INDEX, () -> c.handles(0, h, MAX));
        fails("13 of a METHOD without one", Due.INDEX, () -> c.handles(3, 0, 0));
        for (int with : new int[] {MIN, -1, 41, MAX}) fails("13 the place " + with, Due.ARGUMENT, () -> c.handles(0, 1, with));
        for (int with : new int[] {MIN, 0, 40, 41}) {
            is("13 a FINALLY", -3, () -> c.handles(0, 2, with));
            is("13 a RESCUE", -3, () -> c.handles(0, 3, with));
        }
        for (int m = 1; m <= 3; m++) {
            int n = m;
            is("14 none", -2, () -> c.unhandle(n));
        }
    }

    private static void runs() {
        for (int k : new int[] {MIN, -1, 8, MAX}) fails("16 sample " + k, Due.ARGUMENT, () -> c.sample(k));
        for (int cells : new int[] {MIN, -1, 0, 19, 201, MAX}) fails("35 LIMIT " + cells, Due.ARGUMENT, () -> c.limit(cells));
        for (int m : new int[] {MIN, -1, 4, MAX}) {
            fails("37 the METHOD " + m, Due.INDEX, () -> c.run(m, MAX, 0, 0, 0));
            fails("40 the METHOD " + m, Due.INDEX, () -> c.areSame(m, 0, 0, 0));
            fails("41 the METHOD " + m, Due.INDEX, () -> c.walk(m, 0, 0, 0));
        }
        for (int way : new int[] {MIN, -1, 2, MAX}) for (int m = 0; m <= 3; m++) {
            int n = m;
            fails("37 the WAY " + way, Due.ARGUMENT, () -> c.run(n, way, 0, 0, 0));
        }
        for (int m = 1; m <= 3; m++) {
            int n = m;
            is("37 no ENTRY " + m, -2, () -> c.run(n, 0, 0, 0, 0));
            is("37 no ENTRY by WAY 1 " + m, -2, () -> c.run(n, 1, 0, 0, 0));
            fails("40 no ENTRY " + m, Due.STATE, () -> c.areSame(n, 0, 0, 0));
            is("41 no ENTRY " + m, -2, () -> c.walk(n, 0, 0, 0));
        }
        for (int k : new int[] {MIN, -1, 5, MAX}) fails("39 what " + k, Due.ARGUMENT, () -> c.ofRun(k));
        is("40 that is let", 1, () -> c.areSame(0, 9, 9, 9) ? 1 : 0);
    }

    private static void walks() {
        for (int many : new int[] {MIN, -1, 0, 601, MAX}) fails("42 many " + many, Due.ARGUMENT, () -> c.step(many));
        for (int k : new int[] {MIN, -1, 9, MAX}) fails("44 what " + k, Due.ARGUMENT, () -> c.ofWalk(k));
        for (int f : new int[] {MIN, -1, 1, MAX}) {
            fails("46 the FRAME " + f, Due.INDEX, () -> c.ofFrame(f, MAX));
            fails("47 the FRAME " + f, Due.INDEX, () -> c.holder(f));
            fails("48 the FRAME " + f, Due.INDEX, () -> c.value(f, MAX, 0));
        }
        for (int what : new int[] {MIN, -1, 3, MAX}) {
            fails("46 what " + what, Due.ARGUMENT, () -> c.ofFrame(0, what));
            fails("48 what " + what, Due.ARGUMENT, () -> c.value(0, what, MAX));
        }
        int[] many = {3, 4, 1};
        for (int what = 0; what <= 2; what++) for (int k : new int[] {MIN, -1, many[what], MAX}) {
            int w = what;
            fails("48 the value " + k + " of " + what, Due.INDEX, () -> c.value(0, w, k));
        }
        for (int k : new int[] {MIN, -1, 1, MAX}) is("49 the one " + k, -1, () -> c.reached(k));
        is("49 the first one", 1, () -> c.reached(0));
        for (int n : new int[] {MIN, -1, 0, 2, MAX}) is("50 the THING " + n, 1, () -> c.thing(n).equals("-") ? 1 : 0);
        is("51 a collection changes no answer", 5, () -> c.collect());
    }

    /** What is asked with numbers of nothing. */
    private static void asked() {
        for (int n : new int[] {MIN, -1, MANY, MAX}) {
            fails("20 the EXPRESSION " + n, Due.INDEX, () -> c.exprText(n));
            fails("21 the EXPRESSION " + n, Due.INDEX, () -> c.cellsOf(n));
            fails("22 the EXPRESSION " + n, Due.INDEX, () -> c.isA(n, 0, -1));
            fails("22 the other one " + n, Due.INDEX, () -> c.isA(0, n, -1));
            fails("23 the EXPRESSION " + n, Due.INDEX, () -> c.keeps(n, 0, -1));
            fails("23 the other one " + n, Due.INDEX, () -> c.keeps(0, n, -1));
            fails("24 the EXPRESSION " + n, Due.INDEX, () -> c.isGood(n, -1));
            fails("25 the EXPRESSION " + n, Due.INDEX, () -> c.answer(n, 0, K2));
            fails("25 the other one " + n, Due.INDEX, () -> c.answer(K2, 0, n));
        }
        for (int t : new int[] {MIN, -2, 9, MAX}) {
            fails("18 the TYPE " + t, Due.INDEX, () -> c.ofType(t, MAX));
            fails("22 the TYPE " + t, Due.INDEX, () -> c.isA(0, 0, t));
            fails("23 the TYPE " + t, Due.INDEX, () -> c.keeps(0, 0, t));
            fails("24 the TYPE " + t, Due.INDEX, () -> c.isGood(0, t));
        }
        fails("18 the TYPE -1", Due.INDEX, () -> c.ofType(-1, 0));
        for (int m : new int[] {MIN, -1, 4, MAX}) {
            fails("25 the METHOD " + m, Due.INDEX, () -> c.answer(0, m, 0));
            fails("28 the METHOD " + m, Due.INDEX, () -> c.ofMethod(m, MAX));
            fails("29 the METHOD " + m, Due.INDEX, () -> c.codeText(m, 0));
            fails("30 the METHOD " + m, Due.INDEX, () -> c.ofHandler(m, 0, MAX));
            fails("31 the METHOD " + m, Due.INDEX, () -> c.error(m));
            fails("32 the METHOD " + m, Due.INDEX, () -> c.errorPlace(m));
            fails("33 the METHOD " + m, Due.INDEX, () -> c.state(m, 0));
        }
        for (int p : new int[] {MIN, -1, 40, MAX}) {
            fails("29 the place " + p, Due.INDEX, () -> c.codeText(0, p));
            fails("33 the place " + p, Due.INDEX, () -> c.state(0, p));
        }
        fails("29 the place 1 of one", Due.INDEX, () -> c.codeText(3, 1));
        fails("33 the place 0 of none", Due.INDEX, () -> c.state(1, 0));
        for (int h : new int[] {MIN, -1, 4, MAX}) fails("30 the HANDLER " + h, Due.INDEX, () -> c.ofHandler(0, h, MAX));
        fails("30 the HANDLER 0 of none", Due.INDEX, () -> c.ofHandler(3, 0, 0));
        for (int f : new int[] {MIN, -1, 10, MAX}) fails("26 the FIELD " + f, Due.INDEX, () -> c.ofField(f, MAX));
        for (int k : new int[] {MIN, -1, 8, MAX}) {
            fails("18 what " + k, Due.ARGUMENT, () -> c.ofType(0, k));
            fails("28 what " + k, Due.ARGUMENT, () -> c.ofMethod(0, k));
            fails("52 what " + k, Due.ARGUMENT, () -> c.house(k));
        }
        for (int k : new int[] {MIN, -1, 3, MAX}) fails("26 what " + k, Due.ARGUMENT, () -> c.ofField(9, k));
        for (int k : new int[] {MIN, -1, 6, MAX}) fails("30 what " + k, Due.ARGUMENT, () -> c.ofHandler(0, 3, k));
        for (int x : new int[] {0, 1, 2, 3, I0, D7, ROW, PLACE}) fails("25 the ANSWER of " + x, Due.ARGUMENT, () -> c.answer(x, 0, K2));
        for (int x : new int[] {0, 1, 3, I0, K3I, ROW}) fails("25 FOR " + x, Due.ARGUMENT, () -> c.answer(K2, 0, x));
    }

    /** Up to all limits: 12 TYPES, 48 EXPRESSIONS, 24 FIELDS, 24 METHODS. */
    private static void fill() {
        for (int t = 9; t < 12; t++) Due.is("2 one more TYPE", c.type(0, false, -1, 1), t);
        for (int x = MANY; x < 48; x++) {
            int of = x - MANY;
            if (x < 24) Due.is("3 a TYPE", c.expr(0, x - 12, 0), x);
            else Due.is("3 one more EXPRESSION", c.expr(2, new int[] {1, 2, 3, I0, I1T, I1I, I1INT, K2, K3T, K3I, S4, S5, S6, D7, I8, 21, 22, 23, 24, 25, 26, 27, 28, 29}[of - 3], 0), x);
        }
        for (int f = 10; f < 24; f++) Due.is("5 one more FIELD", c.field(f < 14 ? 9 : f < 18 ? 10 : f < 22 ? 11 : 3, 0, f % 2 == 0), f);
        for (int m = 4; m < 24; m++) {
            Due.is("6 one more METHOD", c.method(m % 2 == 0 ? 2 : 4, m % 10, m % 3, -1), m);
            Due.is("9 its code", c.code(m, 25, 0, 0), 1);
        }
        begin();
    }

    private static void full() {
        fails("2 the KIND ahead of -2", Due.ARGUMENT, () -> c.type(4, false, -1, -1));
        for (int kind = 0; kind <= 3; kind++) {
            int k = kind;
            is("2 a 13th", -2, () -> c.type(k, false, -1, k == 0 ? 1 : -1));
        }
        is("2 -2 ahead of -3", -2, () -> c.type(1, true, -1, -1));
        is("2 -2 ahead of -4", -2, () -> c.type(0, false, I0, 1));
        is("2 -2 ahead of -5", -2, () -> c.type(0, false, -1, -1));
        fails("3 what ahead of -6", Due.ARGUMENT, () -> c.expr(4, 0, 0));
        is("3 a 49th", -6, () -> c.expr(3, 1, 0));
        is("3 a 49th of a TYPE with an ARGUMENT", -6, () -> c.expr(1, 1, K2));
        is("3 -2 ahead of -6", -2, () -> c.expr(2, 48, 0));
        is("3 -3 ahead of -6", -3, () -> c.expr(0, 1, 0));
        is("3 -4 ahead of -6", -4, () -> c.expr(2, PLACE, 0));
        is("3 -5 ahead of -6", -5, () -> c.expr(2, ROWSS, 0));
        is("3 one that is there", 23, () -> c.expr(0, 11, 0));
        is("3 the last one that is there", 47, () -> c.expr(2, 29, 0));
        fails("5 no TYPE ahead of -2", Due.INDEX, () -> c.field(12, 0, false));
        is("5 a 25th", -2, () -> c.field(3, 0, true));
        is("5 -2 ahead of -3", -2, () -> c.field(0, MAX, true));
        is("5 -2 ahead of -4", -2, () -> c.field(6, 3, false));
        is("5 -2 ahead of -5", -2, () -> c.field(2, 0, false));
        is("5 -2 ahead of -6", -2, () -> c.field(5, S6, false));
        fails("6 no TYPE ahead of -2", Due.INDEX, () -> c.method(12, 0, 0, -1));
        fails("6 the NAME ahead of -2", Due.ARGUMENT, () -> c.method(2, 10, 0, -1));
        is("6 a 25th", -2, () -> c.method(2, 0, 0, -1));
        is("6 -2 ahead of -3", -2, () -> c.method(7, 0, 0, -1));
        is("6 -2 ahead of -4", -2, () -> c.method(2, 0, 0, MAX));
        fails("28 a 25th", Due.INDEX, () -> c.ofMethod(24, 0));
        fails("26 a 25th", Due.INDEX, () -> c.ofField(24, 0));
        fails("20 a 49th", Due.INDEX, () -> c.exprText(48));
        fails("18 a 13th", Due.INDEX, () -> c.ofType(12, 0));
        Due.is("18 the 12th", c.ofType(11, 0), 0);
        Due.is("20 the 48th", c.exprText(47), "t1<t0>[][]");
        Due.is("26 the 24th", c.ofField(23, 0), 3);
        Due.is("28 the 24th", c.ofMethod(23, 0), 4);
    }

    private static void withoutWalk() {
        c.stop();
        is("43 none", 0, () -> c.stop());
        for (int n : new int[] {MIN, -1, 0, MAX}) {
            fails("46 no WALK", Due.STATE, () -> c.ofFrame(n, n));
            fails("47 no WALK", Due.STATE, () -> c.holder(n));
            fails("48 no WALK", Due.STATE, () -> c.value(n, n, n));
            fails("49 no WALK", Due.STATE, () -> c.reached(n));
            fails("50 no WALK", Due.STATE, () -> c.thing(n));
        }
        fails("42 no WALK", Due.STATE, () -> c.step(1));
        fails("42 no WALK for 600", Due.STATE, () -> c.step(600));
        fails("42 many ahead of that", Due.ARGUMENT, () -> c.step(601));
        fails("44 no WALK", Due.STATE, () -> c.ofWalk(8));
        fails("44 what ahead of that", Due.ARGUMENT, () -> c.ofWalk(-1));
        fails("45 no WALK", Due.STATE, () -> c.walkOut());
        fails("51 no WALK", Due.STATE, () -> c.collect());
    }

    private static void notRight() {
        c.change(23, 0, 9, 0, 0);
        for (int way = 0; way <= 1; way++) {
            int w = way;
            is("37 not ALL is RIGHT", -3, () -> c.run(0, w, 0, 0, 0));
            is("37 -2 ahead of -3", -2, () -> c.run(1, w, 0, 0, 0));
        }
        fails("40 not ALL is RIGHT", Due.STATE, () -> c.areSame(0, 0, 0, 0));
        fails("40 no METHOD ahead of that", Due.INDEX, () -> c.areSame(24, 0, 0, 0));
        is("41 not ALL is RIGHT", -3, () -> c.walk(0, 0, 0, 0));
        is("41 -2 ahead of -3", -2, () -> c.walk(2, 0, 0, 0));
        fails("41 no METHOD ahead of both", Due.INDEX, () -> c.walk(24, 0, 0, 0));
        fails("37 the WAY ahead of both", Due.ARGUMENT, () -> c.run(1, 2, 0, 0, 0));
    }
}
