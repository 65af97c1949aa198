/** Far ends: types that grow, values of many cells, memory that gets full, stacks of handlers; nothing may break there. */
public final class ExtremeTest {
    public static void main(String[] args) {
        hugeStructs(6, 4);
        hugeStructs(8, 3);
        deepTypes();
        deepBases();
        fullMemory();
        pinsInTheWay();
        manyFaults();
        manyOuts();
        unreadable();
        manyBodies();
        manyStatics();
        manyCellsOfStatics();
        manyExpressions();
        strangeNumbers();
        wholeHouse();
        Due.end("ExtremeTest");
    }

    /** STRUCTS that are filled from the outside in: each one alone has at most 8 CELLS as it is told, all together thousands. */
    private static void hugeStructs(int levels, int each) {
        Cellruntime c = new Cellruntime();
        int[] x = new int[levels];
        int cells = 1;
        for (int t = 0; t < levels; t++) {
            c.type(1, false, -1, -1);
            x[t] = c.expr(0, t, 0);
            cells *= each;
        }
        int last = x[levels - 1];
        for (int t = levels - 1; t > 0; t--) for (int k = 0; k < each; k++) Due.is("5 some of the one before", c.field(t, x[t - 1], false) >= 0, true);
        for (int k = 0; k < each; k++) c.field(0, 0, false);
        Due.is("21 CELLS", c.cellsOf(last), cells);
        Due.is("5 no more of it", c.field(levels - 1, 0, false), -2);
        c.type(0, false, -1, 1);
        int k = c.expr(0, levels, 0);
        int m = c.method(levels, 0, 0, 0);
        c.param(m, 0);
        c.param(m, last);
        c.param(m, last);
        for (int n = 0; n < 4; n++) c.local(m, last);
        int e = c.method(levels, 0, 0, 0);
        c.param(e, 0);
        c.local(e, last);
        Due.write(c, m, "loc 0; loc 1; loc 2; loc 3; loc 0; pop; pop; pop; pop; pop; arg 0; ifnot 19; arg 0; num 1; sub; arg 1; loc 0; call " + m + " " + k + "; ret; loc 0; box " + last
            + "; pop; num 1; ret");
        Due.write(c, e, "arg 0; loc 0; loc 0; call " + m + " " + k + "; ret");
        Due.is("37 eight FRAMES of it", Due.run(c, e, 6, 0, 0), "1 5 0 []");
        Due.is("37 a ninth", Due.run(c, e, 7, 0, 0), "1 6 0 []");
        c.walk(e, 0, 0, 0);
        c.step(9);
        Due.is("48 its text", c.value(1, 2, 4).length(), textOf(levels, each));
        Due.is("54 sound", c.isSound(), true);
        Due.is("55 digest", c.digest(), Due.digest(c));
    }

    private static int textOf(int deep, int each) {
        return deep == 0 ? 1 : 2 + each - 1 + each * textOf(deep - 1, each);
    }

    /** An ARGUMENT that gets deeper with each round. */
    private static void deepTypes() {
        Cellruntime c = new Cellruntime();
        c.type(2, false, -1, -1);
        int i = c.expr(0, 0, 0);
        int next = c.method(0, 0, 2, i);
        c.type(0, true, -1, 1);
        int g = c.expr(1, 1, 3);
        int ggg = c.expr(1, 1, c.expr(1, 1, g));
        int gInt = c.expr(1, 1, 0);
        c.implement(1, i);
        int own = c.method(1, 0, 2, i);
        Due.write(c, own, "make " + ggg + "; ret");
        c.type(0, false, -1, 1);
        int m = c.method(2, 1, 0, -1);
        c.local(m, i);
        Due.write(c, m, "make " + gInt + "; setloc 0; loc 0; callv " + next + " " + i + "; setloc 0; go 2");
        Due.is("37 a run", Due.run(c, m, 0, 0, 0), "2 0 0 []");
        Due.is("39 BODIES that are SHARED", c.ofRun(4), 3);
        c.share(false);
        c.run(m, 1, 0, 0, 0);
        Due.is("39 BODIES that are not", c.ofRun(4), 101);
        c.walk(m, 0, 0, 0);
        c.step(600);
        Due.is("48 a long text", c.value(0, 1, 0).length() > 700, true);
        Due.is("48 it begins so", c.value(0, 1, 0).substring(0, 12), "t1<t1<t1<t1<");
        Due.is("54 sound", c.isSound(), true);
        Due.is("55 digest", c.digest(), Due.digest(c));
    }

    /** BASES that get deeper with each TYPE. */
    private static void deepBases() {
        Cellruntime c = new Cellruntime();
        c.type(0, true, -1, 1);
        int rows = c.expr(2, c.expr(2, 3, 0), 0);
        int[] self = new int[11];
        self[0] = c.expr(1, 0, 3);
        for (int t = 1; t < 11; t++) {
            int base = c.expr(1, t - 1, rows);
            Due.is("2 a BASE that is deeper", c.type(0, true, -1, base), t);
            self[t] = c.expr(1, t, 3);
            c.field(t, 3, false);
        }
        int top = c.expr(1, 10, 0);
        int v = c.method(0, 1, 2, 0);
        Due.write(c, v, "num 5; ret");
        c.type(0, false, -1, 1);
        int m = c.method(11, 0, 0, 0);
        int zero = c.expr(1, 0, 0);
        c.local(m, top);
        Due.write(c, m, "make " + top + "; setloc 0; loc 0; isa " + zero + "; pop; num 3; row " + top + "; num 0; loc 0; put " + top + "; num 7; ret");
        Due.is("37 a run", Due.run(c, m, 0, 0, 0), "0 0 7 []");
        Due.is("22 it is no other one", c.isA(top, zero, -1), false);
        Due.is("22 it is an object", c.isA(top, 1, -1), true);
        Due.is("25 an ANSWER from far below", c.answer(top, v, zero), v);
        c.walk(m, 0, 0, 0);
        c.step(3);
        Due.is("50 all its FIELDS", c.thing(1), "{null,null,null,null,null,null,null,null,null,0}");
    }

    /** More THINGS than the memory holds at once. */
    private static void fullMemory() {
        Cellruntime c = new Cellruntime();
        c.type(1, false, -1, -1);
        int s = c.expr(0, 0, 0);
        for (int k = 0; k < 4; k++) c.field(0, k % 2, false);
        c.type(1, false, -1, -1);
        int u = c.expr(0, 1, 0);
        c.field(1, s, false);
        c.field(1, s, false);
        c.type(0, false, -1, 1);
        int m = c.method(2, 0, 0, 0);
        c.param(m, 0);
        c.local(m, c.expr(2, u, 0));
        c.local(m, 1);
        c.local(m, 0);
        c.limit(200);
        Due.write(c, m, "null; setloc 0; num 12; row " + u + "; setloc 0; loc 0; num 3; atp " + u + "; make 1; pop; pop; loc 2; num 1; add; dup; setloc 2; arg 0; lt; if 0; loc 2; ret");
        Due.is("37 many rounds", Due.run(c, m, 31, 0, 0), "0 0 31 []");
        Due.is("37 too many", Due.run(c, m, 40, 0, 0), "2 0 0 []");
        c.walk(m, 40, 0, 0);
        for (int k = 0; k < 60; k++) {
            c.step(10);
            Due.is("54 sound", c.isSound(), true);
        }
        Due.is("44 one row", c.ofWalk(7) <= 99 + 2, true);
    }

    private static void pinsInTheWay() {
        Cellruntime c = new Cellruntime();
        c.type(0, false, -1, 1);
        int m = c.method(0, 0, 0, -1);
        int row = c.expr(2, 0, 0);
        c.local(m, row);
        c.limit(200);
        Due.write(c, m, "num 12; row 0; setloc 0; loc 0; num 0; num 7; put 0; loc 0; pin; num 12; row 0; pop; num 11; row 0; pop; num 10; row 0; pop; unpin; loc 0; pin; "
            + "num 12; row 0; pin; gc; num 12; row 0; pop; unpin; go 0");
        Due.is("37 a run", Due.run(c, m, 0, 0, 0), "2 0 0 []");
        c.walk(m, 0, 0, 0);
        for (int k = 0; k < 600; k += 4) {
            c.step(4);
            Due.is("54 sound", c.isSound(), true);
        }
        Due.is("44 PINS", c.ofWalk(8) <= 4, true);
    }

    /** FAULTS beyond LIMIT, all of them kept. */
    private static void manyFaults() {
        Cellruntime c = new Cellruntime();
        c.type(0, false, -1, 2);
        int f = c.expr(0, 0, 0);
        int in = c.field(0, 2, false);
        c.type(0, false, -1, 1);
        int m = c.method(1, 0, 0, -1);
        int rows = c.expr(2, 2, 0);
        c.local(m, rows);
        c.local(m, 0);
        // 0: a ROW; 3: a TRY that divides by 0; the CATCH keeps the FAULT in the ROW.
        c.local(m, 2);
        Due.write(c, m, "num 12; row 2; setloc 0; num 1; num 0; div; pop; leave 3; setloc 2; loc 0; loc 1; loc 2; put 2; loc 1; num 1; add; num 12; rem; setloc 1; leave 3");
        c.handler(m, 0, 3, 8, 8, 20);
        c.limit(20);
        Due.is("37 FAULTS have room", Due.run(c, m, 0, 0, 0), "2 0 0 []");
        c.walk(m, 0, 0, 0);
        c.step(600);
        Due.is("44 more CELLS than LIMIT", c.ofWalk(7) > 50, true);
        Due.is("54 sound", c.isSound(), true);
        Due.is("26 there is the FIELD", c.ofField(in, 0) + " " + c.exprText(f), "0 t0");
    }

    private static void manyOuts() {
        Cellruntime c = new Cellruntime();
        c.type(0, false, -1, 1);
        int m = c.method(0, 0, 0, -1);
        c.param(m, 0);
        StringBuilder code = new StringBuilder();
        for (int k = 0; k < 19; k++) code.append("arg 0; out; ");
        Due.write(c, m, code + "go 0");
        c.run(m, 1, Integer.MIN_VALUE, 0, 0);
        Due.is("38 as long as can be", c.out().length(), 292 * 12 - 1);
        Due.is("40 the same", c.areSame(m, Integer.MIN_VALUE, 0, 0), true);
        c.walk(m, Integer.MIN_VALUE, 0, 0);
        c.step(600);
        Due.is("45 the same", c.walkOut(), c.out());
    }

    /** What is never come to may tell any numbers, and is no matter. */
    private static void unreadable() {
        Cellruntime c = new Cellruntime();
        c.type(0, true, -1, 1);
        int g = c.expr(1, 0, 3);
        int gInt = c.expr(1, 0, 0);
        int m = c.method(0, 0, 0, 0);
        Due.write(c, m, "num 1; ret");
        c.type(0, false, -1, 1);
        int e = c.method(1, 0, 0, 0);
        Due.write(c, e, "call " + m + " " + gInt + "; ret");
        int[] numbers = {Integer.MIN_VALUE, -2, -1, 0, 3, 5, 23, 24, 40, 48, 99, Integer.MAX_VALUE};
        for (int op = 0; op < 58; op++) {
            c.cut(m, c.ofMethod(m, 6) - 2);
            for (int a : numbers) c.code(m, op, a, a);
            for (int a : numbers) c.code(m, op, g, a);
            for (int a : numbers) c.code(m, op, a, g);
            Due.is("37 behind the end: " + op, Due.run(c, e, 0, 0, 0), "0 0 1 []");
            Due.is("54 sound", c.isSound(), true);
        }
        for (int op = 0; op < 58; op++) {
            for (int a : numbers) {
                c.cut(e, c.ofMethod(e, 6));
                Due.write(c, e, "num 1; num 1; num 1; num 1; num 1");
                c.code(e, op, a, gInt);
                c.change(e, 4, op, gInt, a);
                Due.is("31 some kind", c.error(e) >= 0 && c.error(e) <= 9, true);
            }
        }
    }

    private static void manyBodies() {
        Cellruntime c = new Cellruntime();
        c.type(0, false, -1, 1);
        int k = c.expr(0, 0, 0);
        int e = c.method(0, 0, 0, -1);
        for (int m = 1; m < 24; m++) {
            c.method(0, 0, 0, -1);
            for (int n = 0; n < 39; n++) c.code(m, 0, 0, 0);
            c.code(m, 25, 0, 0);
        }
        for (int n = 1; n < 24; n++) c.code(e, 22, n, k);
        c.code(e, 16, 0, 0);
        Due.is("37 a run", Due.run(c, e, 0, 0, 0), "2 0 0 []");
        c.run(e, 1, 0, 0, 0);
        Due.is("39 BODIES", c.ofRun(4), 16);
    }

    private static void manyStatics() {
        Cellruntime c = new Cellruntime();
        c.type(0, true, -1, 1);
        int g = c.expr(1, 0, 3);
        int gg = c.expr(1, 0, c.expr(2, c.expr(2, 3, 0), 0));
        int gInt = c.expr(1, 0, 0);
        int f = c.field(0, 3, true);
        int n = c.field(0, 0, true);
        int m = c.method(0, 0, 0, 0);
        c.param(m, 0);
        Due.write(c, m, "gets " + n + " " + g + "; num 1; add; sets " + n + " " + g + "; gets " + f + " " + gg + "; pop; arg 0; ifnot 13; arg 0; num 1; sub; call " + m + " " + gg
            + "; ret; gets " + n + " " + g + "; ret");
        c.type(0, false, -1, 1);
        int e = c.method(1, 0, 0, 0);
        Due.write(c, e, "num 6; call " + m + " " + gInt + "; out; num 5; call " + m + " " + gInt + "; out; num 0; call " + m + " " + gInt + "; ret");
        Due.is("37 a run", Due.run(c, e, 0, 0, 0), "0 0 3 [1 2]");
        c.walk(e, 0, 0, 0);
        c.step(600);
        Due.is("54 sound", c.isSound(), true);
    }

    /** STATICS of 8 CELLS each, FOR nine ARGUMENTS: each one is by itself. */
    private static void manyCellsOfStatics() {
        Cellruntime c = new Cellruntime();
        c.type(1, false, -1, -1);
        int s = c.expr(0, 0, 0);
        for (int k = 0; k < 4; k++) c.field(0, 0, false);
        c.type(1, false, -1, -1);
        int u = c.expr(0, 1, 0);
        c.field(1, s, false);
        c.field(1, s, false);
        c.type(0, true, -1, 1);
        int f = c.field(2, u, true);
        int n = c.field(2, 0, true);
        int m = c.method(2, 0, 0, 0);
        int self = c.expr(1, 2, 3);
        c.param(m, 0);
        // The last INT of both becomes what is given; then all of it is told.
        Due.write(c, m, "arg 0; ifnot 8; getsp " + f + " " + self + "; getp 5 " + u + "; getp 3 " + s + "; arg 0; store 0; nop; gets " + f + " " + self + "; get 5 " + u + "; get 3 "
            + s + "; gets " + n + " " + self + "; num 1; add; sets " + n + " " + self + "; ret");
        c.type(0, false, -1, 1);
        int e = c.method(3, 0, 0, 0);
        int[] of = {0, 1, 2, s, u, c.expr(2, 0, 0), c.expr(2, 1, 0), c.expr(2, s, 0), c.expr(0, 3, 0)};
        StringBuilder code = new StringBuilder();
        for (int k = 0; k < of.length; k++) code.append("num ").append(k + 1).append("; call ").append(m).append(' ').append(c.expr(1, 2, of[k])).append("; pop; ");
        for (int k = 0; k < 2; k++) code.append("num 0; call ").append(m).append(' ').append(c.expr(1, 2, of[k * 8])).append("; out; ");
        Due.write(c, e, code + "gets " + n + " " + c.expr(1, 2, u) + "; ret");
        Due.is("37 each one by itself", Due.run(c, e, 0, 0, 0), "0 0 1 [1 9]");
        c.walk(e, 0, 0, 0);
        c.step(600);
        Due.is("54 sound", c.isSound(), true);
        Due.is("55 digest", c.digest(), Due.digest(c));
    }

    /** FOR each of some hundred ARGUMENTS those of LOCALS, PLACES, BASES and CONTRACTS come up. */
    private static void manyExpressions() {
        Cellruntime c = new Cellruntime();
        c.type(2, false, -1, -1);
        int i = c.expr(0, 0, 0);
        int next = c.method(0, 0, 2, i);
        c.type(0, true, -1, 1);
        int rowT = c.expr(2, 3, 0);
        int gT = c.expr(1, 1, 3);
        int gRow = c.expr(1, 1, rowT);
        c.implement(1, i);
        c.method(1, 0, 2, i);
        Due.write(c, 1, "null; throw");
        c.type(0, true, -1, gRow);
        int hRow = c.expr(1, 2, rowT);
        int hgRow = c.expr(1, 2, gRow);
        int hInt = c.expr(1, 2, 0);
        int own = c.method(2, 0, 2, i);
        for (int x : new int[] {rowT, gT, gRow, hRow}) c.local(own, x);
        Due.write(c, own, "num 1; row 3; setloc 0; make " + hRow + "; setloc 3; make " + hgRow + "; ret");
        c.type(0, false, -1, 1);
        int m = c.method(3, 1, 0, -1);
        c.local(m, i);
        Due.write(c, m, "make " + hInt + "; setloc 0; loc 0; callv " + next + " " + i + "; setloc 0; go 2");
        for (int k = 0; k < 2; k++) Due.is("37 a run", Due.run(c, m, 0, 0, 0), "2 0 0 []");
        c.share(false);
        c.run(m, 1, 0, 0, 0);
        Due.is("39 BODIES that are not SHARED", c.ofRun(4) > 50, true);
        c.walk(m, 0, 0, 0);
        for (int k = 0; k < 10; k++) {
            c.step(60);
            Due.is("54 sound", c.isSound(), true);
        }
        Due.is("48 a long text", c.value(0, 1, 0).length() > 300, true);
        Due.is("44 two at most", c.ofWalk(6) <= 4, true);
        c.run(m, 0, 0, 0, 0);
        Due.is("54 sound behind another run", c.isSound(), true);
        Due.is("55 digest", c.digest(), Due.digest(c));
        Due.is("19 none of them is numbered", c.exprs(), 11);
    }

    private static void strangeNumbers() {
        int[] all = {Integer.MIN_VALUE, Integer.MIN_VALUE + 1, -2, 601, 1000, Integer.MAX_VALUE};
        Cellruntime c = new Cellruntime();
        c.sample(6);
        c.walk(1, 1, 0, 0);
        for (int n : all) {
            Due.is("3 expr", c.expr(0, n, 0) + c.expr(1, n, n) + c.expr(2, n, n) + c.expr(3, n, n), -8);
            Due.fails("4", Due.INDEX, () -> c.implement(n, n));
            Due.fails("5", Due.INDEX, () -> c.field(n, n, true));
            Due.fails("6", Due.INDEX, () -> c.method(n, n, n, n));
            Due.fails("7", Due.INDEX, () -> c.param(n, n));
            Due.fails("8", Due.INDEX, () -> c.local(n, n));
            Due.fails("9", Due.INDEX, () -> c.code(n, n, n, n));
            Due.fails("10", Due.INDEX, () -> c.change(n, n, n, n, n));
            Due.fails("10", Due.INDEX, () -> c.change(0, n, n, n, n));
            Due.fails("11", Due.ARGUMENT, () -> c.cut(0, n));
            Due.fails("13", Due.INDEX, () -> c.handles(0, n, n));
            Due.fails("16", Due.ARGUMENT, () -> c.sample(n));
            Due.fails("11", Due.INDEX, () -> c.cut(n, 0));
            Due.fails("12", Due.INDEX, () -> c.handler(n, 0, 0, 1, 1, 2));
            Due.fails("12", Due.ARGUMENT, () -> c.handler(0, n, 0, 1, 1, 2));
            Due.fails("13", Due.INDEX, () -> c.handles(n, 0, 0));
            Due.fails("14", Due.INDEX, () -> c.unhandle(n));
            Due.fails("28", Due.INDEX, () -> c.ofMethod(n, 0));
            Due.fails("29", Due.INDEX, () -> c.codeText(n, 0));
            Due.fails("30", Due.INDEX, () -> c.ofHandler(n, 0, 0));
            Due.fails("31", Due.INDEX, () -> c.error(n));
            Due.fails("32", Due.INDEX, () -> c.errorPlace(n));
            Due.fails("33", Due.INDEX, () -> c.state(n, 0));
            Due.fails("25", Due.INDEX, () -> c.answer(4, n, 4));
            Due.fails("47", Due.INDEX, () -> c.holder(n));
            Due.fails("48", Due.INDEX, () -> c.value(n, 0, 0));
            Due.fails("48", Due.ARGUMENT, () -> c.value(0, n, 0));
            Due.fails("52", Due.ARGUMENT, () -> c.house(n));
            Due.fails("39", Due.ARGUMENT, () -> c.ofRun(n));
            Due.fails("44", Due.ARGUMENT, () -> c.ofWalk(n));
            Due.fails("18", Due.INDEX, () -> c.ofType(n, n));
            Due.fails("20", Due.INDEX, () -> c.exprText(n));
            Due.fails("21", Due.INDEX, () -> c.cellsOf(n));
            Due.fails("22", Due.INDEX, () -> c.isA(n, n, n));
            Due.fails("23", Due.INDEX, () -> c.keeps(0, 0, n));
            Due.fails("24", Due.INDEX, () -> c.isGood(n, n));
            Due.fails("25", Due.INDEX, () -> c.answer(n, n, n));
            Due.fails("26", Due.INDEX, () -> c.ofField(n, n));
            Due.fails("28", Due.INDEX, () -> c.ofMethod(n, n));
            Due.fails("29", Due.INDEX, () -> c.codeText(0, n));
            Due.fails("30", Due.INDEX, () -> c.ofHandler(0, n, n));
            Due.fails("33", Due.INDEX, () -> c.state(0, n));
            Due.fails("35", Due.ARGUMENT, () -> c.limit(n));
            Due.fails("37", Due.INDEX, () -> c.run(n, n, n, n, n));
            Due.fails("40", Due.INDEX, () -> c.areSame(n, n, n, n));
            Due.fails("41", Due.INDEX, () -> c.walk(n, n, n, n));
            Due.fails("42", Due.ARGUMENT, () -> c.step(n));
            Due.fails("46", Due.INDEX, () -> c.ofFrame(n, n));
            Due.fails("48", Due.INDEX, () -> c.value(0, 0, n));
            Due.is("49", c.reached(n), -1);
            Due.is("50", c.thing(n), "-");
        }
        Due.is("41 the WALK is there still", c.stop(), 1);
    }

    /** All that can be made, and asked for. */
    private static void wholeHouse() {
        Cellruntime c = new Cellruntime();
        for (int t = 0; t < 12; t++) {
            c.type(0, false, -1, t == 0 ? 2 : 3 + t);
            c.expr(0, t, 0);
            c.field(t, 2, false);
            c.field(t, 0, false);
        }
        for (int m = 0; m < 24; m++) {
            c.method(m % 12, m % 10, 0, 0);
            for (int k = 0; k < 3; k++) c.param(m, 0);
            for (int k = 0; k < 4; k++) c.local(m, 15 - k);
            Due.write(c, m, "make 15; setloc 0; loc 0; throw; pop; leave 6");
            for (int k = 0; k < 32; k++) c.code(m, 0, 0, 0);
            Due.write(c, m, "num 5; ret");
            c.handler(m, 0, 2, 4, 4, 6);
        }
        Due.is("2 all TYPES", c.types(), 12);
        Due.is("34 right", c.isRight(), true);
        Due.is("37 a run", Due.run(c, 23, 1, 2, 3), "0 0 5 []");
        c.walk(23, 1, 2, 3);
        c.step(5);
        Due.is("50 all its FIELDS", c.thing(1), "{0,null,0,null,0,null,0,null,0,null,0,null,0,null,0,null,0,null,0,null,0,null,0,null,0}");
        Due.is("44 CELLS", c.ofWalk(7), 27);
        Due.is("55 digest", c.digest(), Due.digest(c));
    }
}
