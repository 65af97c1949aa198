/** Promises 1 to 16: what is made. */
public final class MakeTest {
    public static void main(String[] args) {
        newObject();
        type();
        typeBound();
        typeBase();
        expr();
        exprMost();
        implement();
        field();
        fieldOfStruct();
        method();
        param();
        local();
        code();
        change();
        cut();
        handler();
        handles();
        unhandle();
        clear();
        samples();
        endsWalk();
        Due.end("MakeTest");
    }

    private static void newObject() {
        Cellruntime c = new Cellruntime();
        Due.is("1 types()", c.types(), 0);
        Due.is("1 methods()", c.methods(), 0);
        Due.is("1 exprs()", c.exprs(), 4);
        String[] texts = {"int", "object", "fault", "T"};
        for (int k = 0; k < 4; k++) Due.is("1 exprText(" + k + ")", c.exprText(k), texts[k]);
        Due.is("1 LIMIT", c.house(4), 120);
        Due.is("1 SHARED", c.house(5), 1);
        Due.is("1 knocks", c.house(6), 0);
        Due.is("1 stop()", c.stop(), 0);
        Due.is("1 isRight()", c.isRight(), true);
    }

    private static void type() {
        Cellruntime c = new Cellruntime();
        Due.fails("2 kind -1", Due.ARGUMENT, () -> c.type(-1, false, -1, 1));
        Due.fails("2 kind 4", Due.ARGUMENT, () -> c.type(4, false, -1, 1));
        Due.is("2 CLASS", c.type(0, false, -1, 1), 0);
        Due.is("2 STRUCT", c.type(1, false, -1, -1), 1);
        Due.is("2 INTERFACE", c.type(2, true, -1, -1), 2);
        Due.is("2 DELEGATE", c.type(3, true, -1, -1), 3);
        Due.is("2 kind told", c.ofType(3, 0), 3);
        Due.is("2 open told", c.ofType(3, 1), 1);
        Due.is("2 STRUCT that is OPEN", c.type(1, true, -1, -1), -3);
        Due.is("2 that ahead of -4", c.type(1, true, 77, 5), -3);
        Due.is("2 nothing was made", c.types(), 4);
        for (int k = 4; k < 12; k++) Due.is("2 one more", c.type(2, false, -1, -1), k);
        Due.is("2 of 12", c.type(2, false, -1, -1), -2);
        Due.is("2 -2 ahead of -3", c.type(1, true, 77, 5), -2);
        Due.fails("2 kind ahead of -2", Due.ARGUMENT, () -> c.type(4, false, -1, -1));
    }

    private static void typeBound() {
        Cellruntime c = new Cellruntime();
        c.type(2, false, -1, -1);
        int i = c.expr(0, 0, 0);
        c.type(2, true, i, -1);
        int ofT = c.expr(1, 1, 3);
        int ofInt = c.expr(1, 1, 0);
        int ofI = c.expr(1, 1, i);
        c.type(0, false, -1, 1);
        int k = c.expr(0, 2, 0);
        Due.is("2 a BOUND of what is not OPEN", c.type(0, false, i, 1), -4);
        Due.is("2 no EXPRESSION", c.type(0, true, 99, 1), -4);
        Due.is("2 no EXPRESSION below NONE", c.type(0, true, -2, 1), -4);
        Due.is("2 of a CLASS", c.type(0, true, k, 1), -4);
        Due.is("2 OBJECT", c.type(0, true, 1, 1), -4);
        Due.is("2 T", c.type(0, true, 3, 1), -4);
        Due.is("2 not CLOSED", c.type(0, true, ofT, 1), -4);
        Due.is("2 not GOOD", c.type(0, true, ofInt, 1), -4);
        Due.is("2 -4 ahead of -5", c.type(0, true, k, 99), -4);
        Due.is("2 a BOUND with an ARGUMENT", c.type(0, true, ofI, 1), 3);
        Due.is("2 it is told", c.ofType(3, 2), ofI);
        Due.is("2 NONE is told", c.ofType(2, 2), -1);
        Due.is("2 an INTERFACE is the ARGUMENT of itself", c.isGood(ofI, -1), true);
    }

    private static void typeBase() {
        Cellruntime c = new Cellruntime();
        c.type(2, false, -1, -1);
        int i = c.expr(0, 0, 0);
        c.type(1, false, -1, -1);
        int s = c.expr(0, 1, 0);
        c.type(0, true, i, 1);
        int ofT = c.expr(1, 2, 3);
        int ofInt = c.expr(1, 2, 0);
        int ofI = c.expr(1, 2, i);
        int row = c.expr(2, 1, 0);
        int[] wrong = {-1, 99, 0, 3, s, i, row, ofT, ofInt};
        for (int base : wrong) Due.is("2 BASE " + base, c.type(0, false, -1, base), -5);
        Due.is("2 T has not that BOUND", c.type(0, true, -1, ofT), -5);
        Due.is("2 T has it", c.type(0, true, i, ofT), 3);
        Due.is("2 of INTERFACES", c.type(0, false, -1, ofI), 4);
        Due.is("2 FAULT", c.type(0, false, -1, 2), 5);
        Due.is("2 it is told", c.ofType(3, 3), ofT);
        Due.is("2 a BASE of a STRUCT", c.type(1, false, -1, 1), -5);
        Due.is("2 a BASE of an INTERFACE", c.type(2, false, -1, 1), -5);
        Due.is("2 a BASE of a DELEGATE", c.type(3, false, -1, 0), -5);
    }

    private static void expr() {
        Cellruntime c = new Cellruntime();
        Due.fails("3 what -1", Due.ARGUMENT, () -> c.expr(-1, 0, 0));
        Due.fails("3 what 4", Due.ARGUMENT, () -> c.expr(4, 0, 0));
        Due.is("3 no TYPE", c.expr(0, 0, 0), -2);
        Due.is("3 no TYPE below 0", c.expr(1, -1, 0), -2);
        c.type(0, false, -1, 1);
        c.type(0, true, -1, 1);
        Due.is("3 of a TYPE", c.expr(0, 0, 77), 4);
        Due.is("3 that again", c.expr(0, 0, 78), 4);
        Due.is("3 of an OPEN TYPE", c.expr(1, 1, 4), 5);
        Due.is("3 text", c.exprText(5), "t1<t0>");
        Due.is("3 OPEN for 0", c.expr(0, 1, 0), -3);
        Due.is("3 not OPEN for 1", c.expr(1, 0, 0), -3);
        Due.is("3 no ARGUMENT ahead of -3", c.expr(1, 0, 99), -2);
        Due.is("3 no EXPRESSION", c.expr(2, 6, 0), -2);
        Due.is("3 no EXPRESSION below 0", c.expr(3, -1, 0), -2);
        Due.is("3 a PLACE", c.expr(3, 3, 0), 6);
        Due.is("3 text of it", c.exprText(6), "T&");
        Due.is("3 -3 ahead of -4", c.expr(1, 0, 6), -3);
        Due.is("3 ARGUMENT is a PLACE", c.expr(1, 1, 6), -4);
        Due.is("3 ROW of a PLACE", c.expr(2, 6, 0), -4);
        Due.is("3 PLACE of a PLACE", c.expr(3, 6, 0), -4);
        int r = c.expr(2, 0, 0);
        int rr = c.expr(2, r, 0);
        int rrr = c.expr(2, rr, 0);
        Due.is("3 three deep", c.exprText(rrr), "int[][][]");
        Due.is("3 four deep", c.expr(2, rrr, 0), -5);
        Due.is("3 a PLACE four deep", c.expr(3, rrr, 0), -5);
        Due.is("3 an ARGUMENT three deep", c.expr(1, 1, rrr), -5);
        int p = c.expr(3, rr, 0);
        Due.is("3 a PLACE three deep", c.exprText(p), "int[][]&");
        Due.is("3 -4 ahead of -5", c.expr(2, p, 0), -4);
        int g = c.expr(2, c.expr(1, 1, c.expr(2, 3, 0)), 0);
        Due.is("3 ends from the inside out", c.exprText(g), "t1<T[]>[]");
        Due.is("3 what is not GOOD can be told", c.exprs(), g + 1);
    }

    private static void exprMost() {
        Cellruntime c = new Cellruntime();
        for (int t = 0; t < 12; t++) c.type(2, false, -1, -1);
        for (int t = 0; t < 12; t++) {
            int x = c.expr(0, t, 0);
            for (int k = 0; k < 3 && c.exprs() < 48; k++) x = c.expr(2, x, 0);
        }
        Due.is("3 all", c.exprs(), 48);
        Due.is("3 one more", c.expr(2, 0, 0), -6);
        Due.is("3 one that is there", c.expr(0, 0, 0), 4);
        Due.is("3 -5 ahead of -6", c.expr(2, 7, 0), -5);
    }

    private static void implement() {
        Cellruntime c = new Cellruntime();
        c.type(2, false, -1, -1);
        int i = c.expr(0, 0, 0);
        c.type(2, true, i, -1);
        int jT = c.expr(1, 1, 3);
        int jI = c.expr(1, 1, i);
        int jInt = c.expr(1, 1, 0);
        c.type(0, false, -1, 1);
        int k = c.expr(0, 2, 0);
        c.type(0, true, i, 1);
        c.type(1, false, -1, -1);
        c.type(3, false, -1, -1);
        Due.fails("4 no TYPE", Due.INDEX, () -> c.implement(6, i));
        Due.fails("4 no TYPE below", Due.INDEX, () -> c.implement(-1, 99));
        Due.is("4 of an INTERFACE", c.implement(0, i), -3);
        Due.is("4 of a DELEGATE", c.implement(5, i), -3);
        Due.is("4 no EXPRESSION", c.implement(2, 99), -3);
        Due.is("4 a CLASS as CONTRACT", c.implement(2, k), -3);
        Due.is("4 OBJECT as CONTRACT", c.implement(2, 1), -3);
        Due.is("4 T where it is none", c.implement(2, jT), -4);
        Due.is("4 an ARGUMENT that does not keep", c.implement(2, jInt), -4);
        Due.is("4 one", c.implement(2, i), 1);
        Due.is("4 that again", c.implement(2, i), -5);
        Due.is("4 two", c.implement(2, jI), 2);
        Due.is("4 a third", c.implement(2, 99), -2);
        Due.is("4 T with that BOUND", c.implement(3, jT), 1);
        Due.is("4 of a STRUCT", c.implement(4, i), 1);
        Due.is("4 they are told", c.ofType(2, 4), 2);
    }

    private static void field() {
        Cellruntime c = new Cellruntime();
        c.type(0, false, -1, 1);
        c.type(2, false, -1, -1);
        c.type(3, false, -1, -1);
        c.type(0, true, -1, 1);
        int place = c.expr(3, 0, 0);
        Due.fails("5 no TYPE", Due.INDEX, () -> c.field(4, 0, false));
        Due.is("5 of an INTERFACE", c.field(1, 0, false), -3);
        Due.is("5 of a DELEGATE", c.field(2, 0, true), -3);
        Due.is("5 no EXPRESSION", c.field(0, 99, false), -3);
        Due.is("5 a PLACE", c.field(0, place, false), -3);
        Due.is("5 T where it is none", c.field(0, 3, false), -4);
        Due.is("5 T", c.field(3, 3, false), 0);
        for (int k = 1; k <= 4; k++) Due.is("5 more", c.field(0, k % 2, k == 2), k);
        Due.is("5 a fifth of a TYPE", c.field(0, 0, true), -5);
        Due.is("5 -4 ahead of -5", c.field(0, 3, true), -4);
        for (int t = 4; t < 9; t++) {
            c.type(0, false, -1, 1);
            for (int k = 0; k < 4 && t * 4 + k < 34; k++) Due.is("5 still more", c.field(t, 0, k == 0), 4 * t + k - 11);
        }
        Due.is("5 with one left", c.field(1, 99, false), -3);
        Due.is("5 the last one", c.field(3, 3, true), 23);
        Due.is("5 -2 ahead of -3", c.field(1, 99, false), -2);
    }

    private static void fieldOfStruct() {
        Cellruntime c = new Cellruntime();
        c.type(1, false, -1, -1);
        c.type(1, false, -1, -1);
        c.type(1, false, -1, -1);
        int s0 = c.expr(0, 0, 0);
        int s1 = c.expr(0, 1, 0);
        int s2 = c.expr(0, 2, 0);
        Due.is("5 an empty STRUCT has 1 CELL", c.cellsOf(s0), 1);
        Due.is("5 itself in itself", c.field(1, s1, false), -6);
        Due.is("5 a later one in it", c.field(1, s2, false), -6);
        Due.is("5 itself as a STATIC", c.field(1, s1, true), 0);
        Due.is("5 an earlier one in it", c.field(1, s0, false), 1);
        for (int k = 0; k < 4; k++) Due.is("5 an INT", c.field(0, 0, false), 2 + k);
        Due.is("5 it is 4 now", c.cellsOf(s0), 4);
        Due.is("5 what has it grows, too", c.cellsOf(s1), 4);
        Due.is("5 two of four", c.field(2, s0, false), 6);
        Due.is("5 and 8", c.field(2, s1, false), 7);
        Due.is("5 more than 8", c.field(2, 0, false), -6);
        Due.is("5 a STATIC does not count", c.field(2, s0, true), 8);
        Due.is("5 CELLS", c.cellsOf(s2), 8);
    }

    private static void method() {
        Cellruntime c = new Cellruntime();
        c.type(0, false, -1, 1);
        c.type(2, false, -1, -1);
        c.type(3, false, -1, -1);
        c.type(1, false, -1, -1);
        Due.fails("6 no TYPE", Due.INDEX, () -> c.method(4, 10, 3, 0));
        Due.fails("6 NAME -1", Due.ARGUMENT, () -> c.method(0, -1, 0, 0));
        Due.fails("6 NAME 10", Due.ARGUMENT, () -> c.method(0, 10, 0, 0));
        Due.fails("6 MODE -1", Due.ARGUMENT, () -> c.method(0, 0, -1, 0));
        Due.fails("6 MODE 3", Due.ARGUMENT, () -> c.method(0, 0, 3, 0));
        Due.is("6 STATIC of an INTERFACE", c.method(1, 0, 0, 99), -3);
        Due.is("6 OWN of an INTERFACE", c.method(1, 0, 1, -1), -3);
        Due.is("6 OWN of a DELEGATE", c.method(2, 0, 1, -1), -3);
        Due.is("6 no RESULT that is one", c.method(0, 0, 0, 99), -4);
        Due.is("6 T where it is none", c.method(0, 0, 0, 3), -4);
        Due.is("6 below NONE", c.method(0, 0, 0, -2), -4);
        Due.is("6 of a DELEGATE", c.method(2, 9, 2, 0), 0);
        Due.is("6 a second one", c.method(2, 9, 2, 99), -3);
        int place = c.expr(3, 0, 0);
        Due.is("6 a PLACE as RESULT", c.method(0, 0, 0, place), 1);
        Due.is("6 of a STRUCT", c.method(3, 1, 2, -1), 2);
        Due.is("6 of an INTERFACE", c.method(1, 1, 2, -1), 3);
        Due.is("6 MODE told", c.ofMethod(2, 2), 2);
        Due.is("6 NAME told", c.ofMethod(0, 1), 9);
        Due.is("6 RESULT told", c.ofMethod(1, 3), place);
        for (int k = 4; k < 24; k++) Due.is("6 more", c.method(0, 0, 1, -1), k);
        Due.is("6 of 24", c.method(1, 0, 0, 99), -2);
        Due.fails("6 NAME ahead of -2", Due.ARGUMENT, () -> c.method(1, 12, 0, 99));
    }

    private static void param() {
        Cellruntime c = new Cellruntime();
        c.type(0, false, -1, 1);
        c.method(0, 0, 0, -1);
        Due.fails("7 no METHOD", Due.INDEX, () -> c.param(1, 0));
        Due.is("7 no EXPRESSION", c.param(0, 99), -4);
        Due.is("7 T where it is none", c.param(0, 3), -4);
        Due.is("7 one", c.param(0, 0), 1);
        Due.is("7 a PLACE", c.param(0, c.expr(3, 0, 0)), 2);
        Due.is("7 three", c.param(0, 1), 3);
        Due.is("7 a fourth", c.param(0, 99), -2);
        Due.is("7 they are told", c.ofMethod(0, 4), 3);
    }

    private static void local() {
        Cellruntime c = new Cellruntime();
        c.type(0, false, -1, 1);
        c.type(2, false, -1, -1);
        c.method(0, 0, 0, -1);
        c.method(1, 0, 2, -1);
        Due.fails("8 no METHOD", Due.INDEX, () -> c.local(-1, 0));
        Due.is("8 of an INTERFACE", c.local(1, 99), -3);
        Due.is("8 no EXPRESSION", c.local(0, 99), -4);
        Due.is("8 T where it is none", c.local(0, 3), -4);
        Due.is("8 a PLACE", c.local(0, c.expr(3, 0, 0)), -4);
        for (int k = 1; k <= 4; k++) Due.is("8 one more", c.local(0, k % 3), k);
        Due.is("8 a fifth", c.local(0, 99), -2);
        Due.is("8 they are told", c.ofMethod(0, 5), 4);
    }

    private static void code() {
        Cellruntime c = new Cellruntime();
        c.type(0, false, -1, 1);
        c.type(3, false, -1, -1);
        c.method(0, 0, 0, -1);
        c.method(1, 0, 2, -1);
        Due.fails("9 no METHOD", Due.INDEX, () -> c.code(2, 99, 0, 0));
        Due.fails("9 operation -1", Due.ARGUMENT, () -> c.code(0, -1, 0, 0));
        Due.fails("9 operation 58", Due.ARGUMENT, () -> c.code(1, 58, 0, 0));
        Due.is("9 of a DELEGATE", c.code(1, 57, 0, 0), -3);
        for (int k = 1; k <= 40; k++) Due.is("9 one more", c.code(0, k % 58, k, -k), k);
        Due.is("9 a 41st", c.code(0, 0, 0, 0), -2);
        Due.is("9 they are told", c.ofMethod(0, 6), 40);
    }

    private static void change() {
        Cellruntime c = new Cellruntime();
        c.type(0, false, -1, 1);
        c.method(0, 0, 0, -1);
        Due.write(c, 0, "num 5; pop; ret");
        Due.fails("10 no METHOD", Due.INDEX, () -> c.change(1, 0, 99, 0, 0));
        Due.fails("10 no place", Due.INDEX, () -> c.change(0, 3, 99, 0, 0));
        Due.fails("10 no place below", Due.INDEX, () -> c.change(0, -1, 0, 0, 0));
        Due.fails("10 operation 58", Due.ARGUMENT, () -> c.change(0, 0, 58, 0, 0));
        Due.is("10 done", c.change(0, 0, 21, 1, 0), 1);
        Due.is("10 it is another one", c.codeText(0, 0), "make object");
        Due.is("10 the next one stays", c.codeText(0, 1), "pop");
        Due.is("10 again", c.change(0, 1, 51, 0, 0), 20);
        Due.is("10 and it is checked anew", c.error(0), 3);
    }

    private static void cut() {
        Cellruntime c = new Cellruntime();
        c.type(0, false, -1, 1);
        c.method(0, 0, 0, -1);
        Due.write(c, 0, "nop; nop; ret");
        Due.fails("11 no METHOD", Due.INDEX, () -> c.cut(1, -1));
        Due.fails("11 many -1", Due.ARGUMENT, () -> c.cut(0, -1));
        Due.fails("11 too many", Due.ARGUMENT, () -> c.cut(0, 4));
        Due.is("11 none", c.cut(0, 0), 3);
        Due.is("11 one", c.cut(0, 1), 2);
        Due.is("11 checked anew", c.error(0), 6);
        Due.is("11 all", c.cut(0, 2), 0);
        Due.is("11 there again", c.code(0, 25, 0, 0), 1);
        Due.is("11 right", c.error(0), 0);
    }

    private static void handler() {
        Cellruntime c = new Cellruntime();
        c.type(0, false, -1, 1);
        c.type(2, false, -1, -1);
        c.method(0, 0, 0, -1);
        c.method(1, 0, 2, -1);
        Due.fails("12 no METHOD", Due.INDEX, () -> c.handler(2, 9, 0, 1, 1, 2));
        Due.fails("12 kind -1", Due.ARGUMENT, () -> c.handler(0, -1, 0, 1, 1, 2));
        Due.fails("12 kind 4", Due.ARGUMENT, () -> c.handler(1, 4, 0, 1, 1, 2));
        for (int k = 0; k < 4; k++) {
            int[] p = {0, 0, 0, 0};
            p[k] = 41;
            Due.fails("12 a place 41", Due.ARGUMENT, () -> c.handler(0, 0, p[0], p[1], p[2], p[3]));
            p[k] = -1;
            Due.fails("12 a place -1", Due.ARGUMENT, () -> c.handler(0, 0, p[0], p[1], p[2], p[3]));
        }
        Due.is("12 of an INTERFACE", c.handler(1, 0, 0, 1, 1, 2), -3);
        for (int kind = 0; kind < 4; kind++) Due.is("12 KIND " + kind, c.handler(0, kind, 1, 40, 7, 0), kind);
        int[] with = {2, 7, -1, -1};
        for (int h = 0; h < 4; h++) {
            int[] want = {h, 1, 40, 7, 0, with[h]};
            for (int k = 0; k < 6; k++) Due.is("12 ofHandler(0, " + h + ", " + k + ")", c.ofHandler(0, h, k), want[k]);
        }
        Due.is("12 a fifth", c.handler(0, 0, 0, 1, 1, 2), -2);
        Due.is("12 they are told", c.ofMethod(0, 7), 4);
    }

    private static void handles() {
        Cellruntime c = new Cellruntime();
        c.type(0, false, -1, 1);
        c.method(0, 0, 0, -1);
        for (int kind = 0; kind < 4; kind++) c.handler(0, kind, 0, 1, 3, 4);
        Due.fails("13 no METHOD", Due.INDEX, () -> c.handles(1, 0, 0));
        Due.fails("13 no HANDLER", Due.INDEX, () -> c.handles(0, 4, 99));
        Due.fails("13 no HANDLER below", Due.INDEX, () -> c.handles(0, -1, 0));
        Due.fails("13 a place 41", Due.ARGUMENT, () -> c.handles(0, 1, 41));
        Due.fails("13 a place -1", Due.ARGUMENT, () -> c.handles(0, 1, -1));
        Due.is("13 a CATCH", c.handles(0, 0, 99), 2);
        Due.is("13 again", c.handles(0, 0, -7), 99);
        Due.is("13 a FILTER", c.handles(0, 1, 2), 3);
        Due.is("13 it is told", c.ofHandler(0, 1, 5), 2);
        Due.is("13 a FINALLY", c.handles(0, 2, 99), -3);
        Due.is("13 a RESCUE", c.handles(0, 3, 0), -3);
    }

    private static void unhandle() {
        Cellruntime c = new Cellruntime();
        c.type(0, false, -1, 1);
        c.method(0, 0, 0, -1);
        Due.fails("14 no METHOD", Due.INDEX, () -> c.unhandle(1));
        Due.is("14 none", c.unhandle(0), -2);
        c.handler(0, 2, 0, 1, 1, 2);
        c.handler(0, 3, 0, 1, 1, 2);
        Due.is("14 the last one", c.unhandle(0), 1);
        Due.is("14 the first one stays", c.ofHandler(0, 0, 0), 2);
        Due.is("14 all", c.unhandle(0), 0);
    }

    private static void clear() {
        Cellruntime c = new Cellruntime();
        Due.is("15 nothing there", c.clear(), 0);
        c.sample(1);
        c.run(3, 0, 7, 0, 0);
        c.limit(99);
        Due.is("15 there were some", c.clear(), 4);
        Due.is("15 types()", c.types(), 0);
        Due.is("15 exprs()", c.exprs(), 4);
        Due.is("15 methods()", c.methods(), 0);
        Due.fails("15 no FIELD", Due.INDEX, () -> c.ofField(0, 0));
        Due.is("15 LIMIT stays", c.house(4), 99);
        Due.is("15 runs stay", c.house(0), 1);
        Due.is("15 the last run stays", c.out(), "7 108");
        Due.is("15 begins anew", c.type(0, false, -1, 1), 0);
        Due.is("15 without CONTRACTS", c.ofType(0, 4), 0);
    }

    private static void samples() {
        Cellruntime c = new Cellruntime();
        Due.fails("16 sample -1", Due.ARGUMENT, () -> c.sample(-1));
        Due.fails("16 sample 8", Due.ARGUMENT, () -> c.sample(8));
        int[] methods = {2, 4, 1, 3, 4, 1, 2, 4};
        int[] types = {2, 4, 1, 2, 2, 1, 1, 4};
        for (int k = 0; k < 8; k++) {
            Due.is("16 sample(" + k + ")", c.sample(k), methods[k]);
            Due.is("16 types of " + k, c.types(), types[k]);
            Due.is("16 " + k + " is RIGHT", c.isRight(), true);
        }
        c.sample(0);
        Due.is("16 0 of 4", Due.run(c, 1, 4, 0, 0), "0 0 4 [14]");
        c.sample(1);
        Due.is("16 1 of 7", Due.run(c, 3, 7, 0, 0), "0 0 108 [7 108]");
        c.sample(2);
        Due.is("16 2 of 2", Due.run(c, 0, 2, 0, 0), "0 0 0 [5 7]");
        Due.is("16 2 of 0", Due.run(c, 0, 0, 0, 0), "0 0 4 [7]");
        c.sample(3);
        Due.is("16 3 of 8", Due.run(c, 2, 8, 0, 0), "0 0 8 [5 1 2]");
        c.sample(4);
        Due.is("16 4 of 5", Due.run(c, 3, 5, 0, 0), "0 0 10 [35]");
        c.sample(5);
        Due.is("16 5 of 2", Due.run(c, 0, 2, 0, 0), "0 0 2 [19 13]");
        Due.is("16 5 of 0", Due.run(c, 0, 0, 0, 0), "0 0 0 [6 0]");
        c.sample(6);
        Due.is("16 6 of 3", Due.run(c, 1, 3, 0, 0), "0 0 9 [1 2 3]");
        Due.is("16 6 of 9", Due.run(c, 1, 9, 0, 0), "1 6 0 [3 4 5 6 7 8 9]");
        c.sample(7);
        Due.is("16 7 of 4", Due.run(c, 3, 4, 0, 0), "0 0 4 [2 5]");
    }

    /** What is done ends the WALK; what is not done does not. */
    private static void endsWalk() {
        Cellruntime c = new Cellruntime();
        Due.Call[] done = {
            () -> c.type(2, false, -1, -1), () -> c.expr(2, 2, 0), () -> c.implement(3, 4), () -> c.field(3, 0, true),
            () -> c.method(3, 5, 1, -1), () -> c.param(3, 0), () -> c.local(3, 0), () -> c.code(3, 0, 0, 0), () -> c.change(3, 0, 1, 2, 0),
            () -> c.cut(3, 0), () -> c.handler(3, 2, 0, 1, 1, 2), () -> c.clear(), () -> c.sample(2),
        };
        for (int k = 0; k < done.length; k++) {
            c.sample(1);
            c.walk(3, 1, 0, 0);
            done[k].get();
            Due.is("2 act " + k + " ends the WALK", c.stop(), 0);
        }
        c.sample(6);
        c.walk(1, 1, 0, 0);
        c.handles(1, 0, 3);
        Due.is("13 ends the WALK", c.stop(), 0);
        c.walk(1, 1, 0, 0);
        c.unhandle(0);
        Due.is("14 ends the WALK", c.stop(), 0);
        c.sample(1);
        c.walk(3, 1, 0, 0);
        Due.Call[] not = {
            () -> c.type(1, true, -1, -1), () -> c.expr(0, 0, 0), () -> c.expr(2, 99, 0), () -> c.implement(0, 4), () -> c.field(0, 0, true),
            () -> c.method(0, 5, 1, -1), () -> c.param(3, 99), () -> c.local(3, 99), () -> c.code(0, 0, 0, 0), () -> c.change(3, 99, 1, 2, 0),
            () -> c.cut(3, 99), () -> c.handler(3, 7, 0, 1, 1, 2), () -> c.handles(3, 0, 0), () -> c.unhandle(3), () -> c.sample(8),
            () -> c.limit(50), () -> c.share(false), () -> c.knock(), () -> c.run(3, 1, 2, 0, 0), () -> c.isSound(),
        };
        for (int k = 0; k < not.length; k++) {
            try {
                not[k].get();
            } catch (RuntimeException e) {
                Due.is("2 an exception", e.getMessage(), null);
            }
            Due.is("2 act " + k + " that is not done", Due.hasWalk(c), true);
        }
        c.run(3, 0, 1, 0, 0);
        Due.is("41 it goes on", c.step(600), c.ofRun(2));
    }
}
