/** Promises 17 to 30: what is asked of types and methods. */
public final class AskTest {
    public static void main(String[] args) {
        types();
        whole();
        wholeForArguments();
        exprs();
        cellsOf();
        isA();
        isAofContracts();
        keeps();
        isGood();
        answer();
        answerForArguments();
        ofField();
        ofMethod();
        codeText();
        ofHandler();
        Due.end("AskTest");
    }

    private static void types() {
        Cellruntime c = new Cellruntime();
        Due.is("17 none", c.types(), 0);
        c.sample(7);
        Due.is("17 types()", c.types(), 4);
        int[][] want = {
            {2, 0, -1, -1, 0, 0, 1, 1}, {1, 0, -1, -1, 1, 1, 1, 1}, {0, 1, 4, 1, 0, 1, 1, 1}, {0, 0, -1, 1, 0, 0, 1, 1},
        };
        for (int t = 0; t < 4; t++) for (int k = 0; k < 8; k++) Due.is("18 ofType(" + t + ", " + k + ")", c.ofType(t, k), want[t][k]);
        Due.fails("18 no TYPE", Due.INDEX, () -> c.ofType(4, 9));
        Due.fails("18 no TYPE below", Due.INDEX, () -> c.ofType(-1, 0));
        Due.fails("18 what -1", Due.ARGUMENT, () -> c.ofType(0, -1));
        Due.fails("18 what 8", Due.ARGUMENT, () -> c.ofType(0, 8));
    }

    private static void whole() {
        Cellruntime c = new Cellruntime();
        c.type(2, false, -1, -1);
        int i = c.expr(0, 0, 0);
        c.method(0, 3, 2, 0);
        c.param(0, 0);
        c.type(0, false, -1, 1);
        int k = c.expr(0, 1, 0);
        c.implement(1, i);
        c.type(0, false, -1, k);
        c.type(1, false, -1, -1);
        c.implement(3, i);
        c.type(3, false, -1, -1);
        Due.is("18 a CLASS without an ANSWER", c.ofType(1, 7), 0);
        Due.is("18 of its BASE", c.ofType(2, 7), 0);
        Due.is("18 a STRUCT without an ANSWER", c.ofType(3, 7), 0);
        Due.is("18 a DELEGATE without a METHOD", c.ofType(4, 7), 0);
        Due.is("18 an INTERFACE", c.ofType(0, 7), 1);
        c.method(4, 0, 2, -1);
        Due.is("18 a DELEGATE with one", c.ofType(4, 7), 1);
        c.method(1, 3, 1, 0);
        c.param(2, 0);
        Due.is("18 one that is not VIRTUAL", c.ofType(1, 7), 0);
        c.method(1, 3, 2, 0);
        Due.is("18 one that is given less", c.ofType(1, 7), 0);
        c.param(3, 1);
        Due.is("18 one that is given something else", c.ofType(1, 7), 0);
        c.method(2, 3, 2, 0);
        c.param(4, 0);
        Due.is("18 the one above has an ANSWER", c.ofType(2, 7), 1);
        Due.is("18 the BASE has none", c.ofType(1, 7), 0);
        c.method(1, 3, 2, 1);
        c.param(5, 0);
        Due.is("18 another RESULT", c.ofType(1, 7), 0);
        c.method(1, 4, 2, 0);
        c.param(6, 0);
        Due.is("18 another NAME", c.ofType(1, 7), 0);
        c.method(1, 3, 2, 0);
        c.param(7, 0);
        Due.is("18 that one", c.ofType(1, 7), 1);
        c.method(3, 3, 2, 0);
        c.param(8, 0);
        Due.is("18 of a STRUCT", c.ofType(3, 7), 1);
    }

    private static void wholeForArguments() {
        Cellruntime c = new Cellruntime();
        c.type(2, true, -1, -1);
        c.expr(1, 0, 3);
        int rowT = c.expr(2, 3, 0);
        int ofRow = c.expr(1, 0, rowT);
        c.method(0, 1, 2, 3);
        c.param(0, 3);
        c.type(0, true, -1, 1);
        int k = c.expr(1, 1, 3);
        c.implement(1, ofRow);
        c.method(1, 1, 2, 3);
        c.param(1, 3);
        Due.is("18 T, where T[] is asked for", c.ofType(1, 7), 0);
        c.method(1, 1, 2, rowT);
        c.param(2, rowT);
        Due.is("18 T[]", c.ofType(1, 7), 1);
        int ofInt = c.expr(1, 1, 0);
        c.type(0, false, -1, ofInt);
        Due.is("18 above an ARGUMENT", c.ofType(2, 7), 1);
        Due.is("25 the ANSWER of it", c.answer(c.expr(0, 2, 0), 0, c.expr(1, 0, c.expr(2, 0, 0))), 2);
        Due.is("25 FOR T the other one", c.answer(k, 0, c.expr(1, 0, 3)), 1);
    }

    private static void exprs() {
        Cellruntime c = new Cellruntime();
        c.sample(7);
        Due.is("19 exprs()", c.exprs(), 8);
        String[] want = {"int", "object", "fault", "T", "t0", "t1", "t2<T>", "t2<t1>"};
        for (int k = 0; k < 8; k++) Due.is("20 exprText(" + k + ")", c.exprText(k), want[k]);
        Due.fails("20 no EXPRESSION", Due.INDEX, () -> c.exprText(8));
        Due.fails("20 no EXPRESSION below", Due.INDEX, () -> c.exprText(-1));
        Due.is("20 all of them", c.exprText(c.expr(3, c.expr(2, c.expr(1, 2, 5), 0), 0)), "t2<t1>[]&");
    }

    private static void cellsOf() {
        Cellruntime c = new Cellruntime();
        c.sample(0);
        Due.is("21 INT", c.cellsOf(0), 1);
        Due.is("21 OBJECT", c.cellsOf(1), 1);
        Due.is("21 FAULT", c.cellsOf(2), 1);
        Due.is("21 T", c.cellsOf(3), -1);
        Due.is("21 a STRUCT of two", c.cellsOf(4), 2);
        Due.is("21 a PLACE of it", c.cellsOf(c.expr(3, 4, 0)), 2);
        Due.is("21 a ROW of it", c.cellsOf(c.expr(2, 4, 0)), 1);
        Due.is("21 a PLACE of T", c.cellsOf(c.expr(3, 3, 0)), -1);
        Due.is("21 a ROW of T", c.cellsOf(c.expr(2, 3, 0)), -1);
        Due.fails("21 no EXPRESSION", Due.INDEX, () -> c.cellsOf(99));
        c.type(3, true, -1, -1);
        Due.is("21 a DELEGATE", c.cellsOf(c.expr(1, 2, 4)), 1);
        Due.is("21 with T in it", c.cellsOf(c.expr(1, 2, 3)), -1);
    }

    private static void isA() {
        Cellruntime c = new Cellruntime();
        c.type(0, false, -1, 1);
        int a = c.expr(0, 0, 0);
        c.type(0, true, -1, a);
        int bT = c.expr(1, 1, 3);
        int bInt = c.expr(1, 1, 0);
        c.type(0, false, -1, bInt);
        int d = c.expr(0, 2, 0);
        c.type(0, false, -1, 2);
        int f = c.expr(0, 3, 0);
        c.type(3, false, -1, -1);
        int g = c.expr(0, 4, 0);
        c.type(1, false, -1, -1);
        int s = c.expr(0, 5, 0);
        int rowA = c.expr(2, a, 0);
        int rowD = c.expr(2, d, 0);
        int rowInt = c.expr(2, 0, 0);
        int rowS = c.expr(2, s, 0);
        int rowO = c.expr(2, 1, 0);
        int rowRowD = c.expr(2, rowD, 0);
        int rowRowA = c.expr(2, rowA, 0);
        int rowRowInt = c.expr(2, rowInt, 0);
        int bRow = c.expr(1, 1, rowD);
        int place = c.expr(3, a, 0);
        int[][] yes = {
            {1, 1}, {2, 2}, {2, 1}, {a, a}, {a, 1}, {d, bInt}, {d, a}, {d, 1}, {bT, a}, {bT, 1}, {bT, bT}, {f, 2}, {f, 1}, {g, 1}, {g, g},
            {rowA, 1}, {rowInt, 1}, {rowInt, rowInt}, {rowD, rowA}, {rowD, rowO}, {rowRowD, rowRowA}, {rowRowD, rowO}, {rowRowInt, rowO}, {bRow, a},
        };
        int[][] no = {
            {1, 2}, {0, 0}, {0, 1}, {3, 3}, {3, 1}, {a, d}, {1, a}, {bT, bInt}, {bInt, bT}, {d, bT}, {s, s}, {s, 1}, {a, 0}, {rowA, rowD},
            {rowInt, rowO}, {rowS, rowO}, {rowA, a}, {a, rowA}, {f, g}, {place, place}, {place, 1}, {rowRowInt, rowRowA}, {2, f},
        };
        for (int[] k : yes) Due.is("22 " + c.exprText(k[0]) + " is a " + c.exprText(k[1]), c.isA(k[0], k[1], -1), true);
        for (int[] k : no) Due.is("22 " + c.exprText(k[0]) + " is a " + c.exprText(k[1]), c.isA(k[0], k[1], -1), false);
        Due.is("22 in a TYPE", c.isA(d, a, 1), true);
        Due.fails("22 no EXPRESSION", Due.INDEX, () -> c.isA(99, 0, -1));
        Due.fails("22 no EXPRESSION behind", Due.INDEX, () -> c.isA(0, -1, -1));
        Due.fails("22 no TYPE", Due.INDEX, () -> c.isA(0, 0, 6));
        Due.fails("22 no TYPE below NONE", Due.INDEX, () -> c.isA(0, 0, -2));
    }

    private static void isAofContracts() {
        Cellruntime c = new Cellruntime();
        c.type(2, true, -1, -1);
        int iT = c.expr(1, 0, 3);
        int iInt = c.expr(1, 0, 0);
        int iO = c.expr(1, 0, 1);
        c.type(0, true, -1, 1);
        c.expr(1, 1, 3);
        int aInt = c.expr(1, 1, 0);
        c.implement(1, iT);
        c.type(0, false, -1, aInt);
        int b = c.expr(0, 2, 0);
        Due.is("22 a CONTRACT FOR int", c.isA(aInt, iInt, -1), true);
        Due.is("22 not FOR object", c.isA(aInt, iO, -1), false);
        Due.is("22 of a BASE", c.isA(b, iInt, -1), true);
        Due.is("22 an INTERFACE itself", c.isA(iInt, iInt, -1), true);
        Due.is("22 an INTERFACE is an object", c.isA(iO, 1, -1), true);
        Due.is("22 another ARGUMENT", c.isA(iInt, iO, -1), false);
        Due.is("22 ROWS", c.isA(c.expr(2, b, 0), c.expr(2, iInt, 0), -1), true);
        Due.is("23 it keeps", c.keeps(b, iInt, -1), true);
        Due.is("23 not T", c.keeps(b, iT, -1), false);
    }

    private static void keeps() {
        Cellruntime c = new Cellruntime();
        c.sample(7);
        Due.is("23 T with that BOUND", c.keeps(3, 4, 2), true);
        Due.is("23 T without", c.keeps(3, 4, 3), false);
        Due.is("23 T in none", c.keeps(3, 4, -1), false);
        Due.is("23 a STRUCT", c.keeps(5, 4, -1), true);
        Due.is("23 itself", c.keeps(4, 4, -1), true);
        Due.is("23 what is no INTERFACE", c.keeps(5, 5, -1), false);
        Due.is("23 OBJECT is none", c.keeps(4, 1, -1), false);
        Due.is("23 a CLASS without", c.keeps(7, 4, -1), false);
        Due.is("23 INT", c.keeps(0, 4, -1), false);
        c.type(2, false, -1, -1);
        int second = c.expr(0, 4, 0);
        int third = c.expr(1, 2, second);
        Due.is("23 not yet", c.keeps(5, second, -1), false);
        c.implement(1, second);
        Due.is("23 the second CONTRACT", c.keeps(5, second, -1), true);
        Due.is("23 the first one still", c.keeps(5, 4, -1), true);
        Due.is("23 not another TYPE", c.keeps(third, second, -1), false);
        Due.is("4 that again", c.implement(1, 4), -2);
        c.sample(7);
        Due.fails("23 no EXPRESSION", Due.INDEX, () -> c.keeps(8, 4, -1));
        Due.fails("23 no EXPRESSION behind", Due.INDEX, () -> c.keeps(4, 8, -1));
        Due.fails("23 no TYPE", Due.INDEX, () -> c.keeps(4, 4, 4));
        Due.fails("23 no TYPE below NONE", Due.INDEX, () -> c.keeps(4, 4, -2));
    }

    private static void isGood() {
        Cellruntime c = new Cellruntime();
        c.sample(7);
        int bad = c.expr(1, 2, 0);
        int deep = c.expr(2, c.expr(1, 2, 7), 0);
        int rowBad = c.expr(2, bad, 0);
        Due.is("24 T in an OPEN TYPE", c.isGood(3, 2), true);
        Due.is("24 T in another one", c.isGood(3, 1), false);
        Due.is("24 T in none", c.isGood(3, -1), false);
        Due.is("24 t2<T> where T keeps", c.isGood(6, 2), true);
        Due.is("24 t2<T> elsewhere", c.isGood(6, -1), false);
        Due.is("24 t2<t1>", c.isGood(7, -1), true);
        Due.is("24 t2<int>", c.isGood(bad, -1), false);
        Due.is("24 t2<int>, even there", c.isGood(bad, 2), false);
        Due.is("24 however deep", c.isGood(rowBad, -1), false);
        Due.is("24 t2<t2<t1>>[]", c.isGood(deep, -1), false);
        Due.is("24 int", c.isGood(0, 3), true);
        Due.fails("24 no EXPRESSION", Due.INDEX, () -> c.isGood(99, -1));
        Due.fails("24 no TYPE", Due.INDEX, () -> c.isGood(0, 4));
        Due.fails("24 no TYPE below NONE", Due.INDEX, () -> c.isGood(0, -2));
        c.implement(2, 4);
        Due.is("24 it keeps now", c.isGood(deep, -1), true);
    }

    private static void answer() {
        Cellruntime c = new Cellruntime();
        c.sample(1);
        Due.is("25 of the CLASS", c.answer(5, 0, 4), 1);
        Due.is("25 of the one above", c.answer(6, 0, 4), 2);
        Due.is("25 to a METHOD of a CLASS", c.answer(6, 1, 5), 2);
        c.method(2, 2, 2, 0);
        Due.is("25 of several the first", c.answer(6, 0, 4), 2);
        c.method(0, 7, 2, -1);
        Due.is("25 none", c.answer(6, 5, 4), -1);
        c.method(1, 7, 1, -1);
        Due.is("25 none that is VIRTUAL", c.answer(6, 5, 4), -1);
        c.method(1, 7, 2, -1);
        Due.is("25 of a BASE", c.answer(6, 5, 4), 7);
        Due.fails("25 no EXPRESSION", Due.INDEX, () -> c.answer(99, 0, 4));
        Due.fails("25 no x", Due.INDEX, () -> c.answer(5, 0, 99));
        Due.fails("25 no METHOD", Due.INDEX, () -> c.answer(4, 8, 5));
        Due.fails("25 of an INTERFACE", Due.ARGUMENT, () -> c.answer(4, 0, 4));
        Due.fails("25 of OBJECT", Due.ARGUMENT, () -> c.answer(1, 0, 4));
        Due.fails("25 x of another TYPE", Due.ARGUMENT, () -> c.answer(5, 0, 5));
    }

    private static void answerForArguments() {
        Cellruntime c = new Cellruntime();
        c.type(0, true, -1, 1);
        int aT = c.expr(1, 0, 3);
        int aInt = c.expr(1, 0, 0);
        int aO = c.expr(1, 0, 1);
        c.method(0, 1, 2, -1);
        c.param(0, 3);
        c.method(0, 1, 2, -1);
        c.param(1, 0);
        Due.is("25 of several that fit FOR int the first", c.answer(aInt, 1, aInt), 0);
        Due.is("25 FOR object just one", c.answer(aO, 1, aO), 1);
        Due.is("25 with T", c.answer(aT, 0, aT), 0);
        c.type(0, true, -1, aT);
        int bO = c.expr(1, 1, 1);
        c.method(1, 1, 2, -1);
        c.param(2, 1);
        Due.is("25 above, FOR object", c.answer(bO, 0, aO), 2);
        Due.is("25 above, FOR T", c.answer(c.expr(1, 1, 3), 0, aT), 0);
        int rowT = c.expr(2, 3, 0);
        int rowInt = c.expr(2, 0, 0);
        c.method(0, 2, 2, rowT);
        c.param(3, rowT);
        c.type(0, true, -1, aT);
        int dT = c.expr(1, 2, 3);
        int dInt = c.expr(1, 2, 0);
        int[][] other = {{0, rowT}, {3, rowT}, {rowInt, rowInt}, {rowT, 3}, {1, rowT}};
        for (int[] k : other) c.param(c.method(2, 2, 2, k[1]), k[0]);
        c.method(2, 2, 2, rowT);
        Due.is("25 T[] with T is just T[]", c.answer(dT, 3, aT), 3);
        Due.is("25 FOR int it is int[]", c.answer(dInt, 3, aInt), 6);
        Due.is("25 of what is given nothing", c.answer(dT, 9, dT), 9);
    }

    private static void ofField() {
        Cellruntime c = new Cellruntime();
        c.sample(3);
        int[][] want = {{0, 3, 0}, {0, 0, 1}};
        for (int f = 0; f < 2; f++) for (int k = 0; k < 3; k++) Due.is("26 ofField(" + f + ", " + k + ")", c.ofField(f, k), want[f][k]);
        Due.fails("26 no FIELD", Due.INDEX, () -> c.ofField(2, 9));
        Due.fails("26 no FIELD below", Due.INDEX, () -> c.ofField(-1, 0));
        Due.fails("26 what -1", Due.ARGUMENT, () -> c.ofField(0, -1));
        Due.fails("26 what 3", Due.ARGUMENT, () -> c.ofField(0, 3));
    }

    private static void ofMethod() {
        Cellruntime c = new Cellruntime();
        Due.is("27 none", c.methods(), 0);
        c.sample(6);
        Due.is("27 methods()", c.methods(), 2);
        int[][] want = {{0, 1, 0, -1, 1, 0, 16, 1}, {0, 0, 0, 0, 1, 1, 12, 1}};
        for (int m = 0; m < 2; m++) for (int k = 0; k < 8; k++) Due.is("28 ofMethod(" + m + ", " + k + ")", c.ofMethod(m, k), want[m][k]);
        Due.fails("28 no METHOD", Due.INDEX, () -> c.ofMethod(2, 9));
        Due.fails("28 no METHOD below", Due.INDEX, () -> c.ofMethod(-1, 0));
        Due.fails("28 what -1", Due.ARGUMENT, () -> c.ofMethod(0, -1));
        Due.fails("28 what 8", Due.ARGUMENT, () -> c.ofMethod(0, 8));
    }

    private static void codeText() {
        Cellruntime c = new Cellruntime();
        c.type(0, true, -1, 1);
        int aT = c.expr(1, 0, 3);
        c.method(0, 0, 0, -1);
        String withA = "num arg setarg loc setloc argp locp go if ifnot leave ";
        String withX = "make box unbox unboxa cast isa row at put atp load store init invoke ";
        String withB = "call callv callon bind get set getp gets sets getsp ";
        for (int op = 0; op < 58; op++) {
            String name = Due.NAMES[op];
            String want = name;
            if (withA.contains(name + " ")) want = name + " 4";
            if (withX.contains(name + " ")) want = name + " t0<T>";
            if (withB.contains(name + " ")) want = name + " 4 fault";
            if (op == 0) c.code(0, op, aT, 2);
            else c.change(0, 0, op, aT, 2);
            Due.is("29 codeText of " + op, c.codeText(0, 0), want);
        }
        c.change(0, 0, 22, -7, 99);
        Due.is("29 no EXPRESSION", c.codeText(0, 0), "call -7 ?");
        c.change(0, 0, 39, -1, 0);
        Due.is("29 no EXPRESSION alone", c.codeText(0, 0), "at ?");
        c.change(0, 0, 1, -99999, 0);
        Due.is("29 a number that is not let", c.codeText(0, 0), "num -99999");
        Due.fails("29 no METHOD", Due.INDEX, () -> c.codeText(1, 0));
        Due.fails("29 no place", Due.INDEX, () -> c.codeText(0, 1));
        Due.fails("29 no place below", Due.INDEX, () -> c.codeText(0, -1));
    }

    private static void ofHandler() {
        Cellruntime c = new Cellruntime();
        c.sample(6);
        int[][] want = {{3, 7, 12, 12, 15, -1}, {1, 0, 3, 7, 10, 3}};
        for (int m = 0; m < 2; m++) for (int k = 0; k < 6; k++) Due.is("30 ofHandler(" + m + ", 0, " + k + ")", c.ofHandler(m, 0, k), want[m][k]);
        Due.fails("30 no METHOD", Due.INDEX, () -> c.ofHandler(2, 0, 9));
        Due.fails("30 no HANDLER", Due.INDEX, () -> c.ofHandler(0, 1, 9));
        Due.fails("30 no HANDLER below", Due.INDEX, () -> c.ofHandler(0, -1, 0));
        Due.fails("30 what -1", Due.ARGUMENT, () -> c.ofHandler(0, 0, -1));
        Due.fails("30 what 6", Due.ARGUMENT, () -> c.ofHandler(0, 0, 6));
        c.sample(2);
        Due.is("30 a CATCH", c.ofHandler(0, 1, 5), 2);
    }
}
