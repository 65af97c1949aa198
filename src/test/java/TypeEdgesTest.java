/** Section 1 of the document and promises 2 to 30 at their edges: how expressions stand to one another, CELLS, ANSWERS, what is WHOLE. */
public final class TypeEdgesTest {
    private static Cellruntime c;

    public static void main(String[] args) {
        deep();
        once();
        places();
        bases();
        rows();
        neverReferences();
        contracts();
        contractsOfBases();
        bounds();
        good();
        goodLater();
        cells();
        cellsOfStructs();
        fields();
        whole();
        wholeOfBases();
        answers();
        answersAbove();
        delegates();
        handlers();
        Due.end("TypeEdgesTest");
    }

    private static void isA(boolean want, int x, int y) {
        String told = "22 " + c.exprText(x) + " is a " + c.exprText(y);
        for (int t = -1; t < c.types(); t++) Due.is(told + " in " + t, c.isA(x, y, t), want);
    }

    private static void keeps(boolean want, int x, int y, int type) {
        Due.is("23 " + c.exprText(x) + " keeps " + c.exprText(y) + " in " + type, c.keeps(x, y, type), want);
    }

    private static int type(int kind, boolean open, int bound, int base) {
        int t = c.type(kind, open, bound, base);
        Due.is("2 a TYPE", t >= 0, true);
        return c.expr(open ? 1 : 0, t, 3);
    }

    /** DEEP is at most 3 of those that are made, by each kind of what is deep. */
    private static void deep() {
        c = new Cellruntime();
        int g = type(0, true, -1, 1);
        int d = type(0, false, -1, 1);
        for (int first : new int[] {0, 1, 2, 3, d}) for (int what = 1; what <= 3; what++) {
            int one = c.expr(1, 0, first);
            int two = c.expr(2, one, 0);
            int three = what == 1 ? c.expr(1, 0, two) : c.expr(what, two, 0);
            Due.is("3 three deep: " + what, three >= 0, true);
            Due.is("3 a ROW four deep", c.expr(2, three, 0), what == 3 ? -4 : -5);
            Due.is("3 a PLACE four deep", c.expr(3, three, 0), what == 3 ? -4 : -5);
            Due.is("3 an ARGUMENT four deep", c.expr(1, 0, three), what == 3 ? -4 : -5);
        }
        Due.is("20 its text", c.exprText(g) + " " + c.exprText(c.expr(3, c.expr(2, c.expr(1, 0, d), 0), 0)), "t0<T> t0<t1>[]&");
        // FOR others they may be deeper: FIELDS of a BASE of three, FOR three.
        int rows = c.expr(2, c.expr(2, c.expr(2, 3, 0), 0), 0);
        int t = c.type(0, true, -1, 1);
        c.field(t, rows, false);
        int gRows = c.expr(1, t, c.expr(2, c.expr(2, 0, 0), 0));
        int m = c.method(1, 0, 0, -1);
        c.local(m, gRows);
        Due.write(c, m, "make " + gRows + "; get 0 " + gRows + "; pop; ret");
        Due.is("33 five deep", c.state(m, 2), "int[][][][][]");
    }

    /** Each EXPRESSION is numbered once; of 48 each is there still. */
    private static void once() {
        c = new Cellruntime();
        type(0, true, -1, 1);
        int[] xs = new int[44];
        int many = 0;
        for (int k = 0; k < 3; k++) for (int what = 1; what <= 2; what++) for (int of = 0; c.exprs() < 48 && of < c.exprs(); of++) {
            int before = c.exprs();
            int x = what == 1 ? c.expr(1, 0, of) : c.expr(2, of, 0);
            if (x >= before && many < 44) xs[many++] = x;
        }
        Due.is("3 all 48", c.exprs(), 48);
        for (int x = 0; x < 48; x++) for (int y = 0; y < x; y++) Due.is("3 two are not the same: " + x + " " + y, c.exprText(x).equals(c.exprText(y)), false);
        Due.is("3 one more", c.expr(3, 3, 0), -6);
        for (int of = 0; of < 4; of++) {
            int a = c.expr(1, 0, of);
            int r = c.expr(2, of, 0);
            Due.is("3 it is there", a >= 4 && c.exprText(a).equals("t0<" + c.exprText(of) + ">"), true);
            Due.is("3 it is there, too", r >= 4 && c.exprText(r).equals(c.exprText(of) + "[]"), true);
        }
        Due.is("3 still 48", c.exprs(), 48);
        c.clear();
        Due.is("15 the first four", c.exprs() + c.exprText(3), "4T");
        Due.is("3 the numbers begin anew", c.expr(3, 3, 0), 4);
    }

    /** No PLACE is in an ARGUMENT, a ROW, a PLACE, a FIELD, a LOCAL; but it may be given, and be a RESULT. */
    private static void places() {
        c = new Cellruntime();
        type(0, true, -1, 1);
        type(1, false, -1, -1);
        int p = c.expr(3, 0, 0);
        int pT = c.expr(3, 3, 0);
        for (int x : new int[] {p, pT}) {
            Due.is("3 an ARGUMENT", c.expr(1, 0, x), -4);
            Due.is("3 a ROW", c.expr(2, x, 0), -4);
            Due.is("3 a PLACE", c.expr(3, x, 0), -4);
            Due.is("5 a FIELD", c.field(0, x, false), -3);
            Due.is("5 a STATIC", c.field(0, x, true), -3);
        }
        int m = c.method(0, 0, 0, pT);
        Due.is("6 a RESULT", c.ofMethod(m, 3), pT);
        for (int k = 1; k <= 3; k++) Due.is("7 what is given", c.param(m, k == 2 ? p : pT), k);
        Due.is("8 a LOCAL", c.local(m, pT), -4);
        Due.is("2 a BOUND", c.type(0, true, p, 1), -4);
        Due.is("2 a BASE", c.type(0, false, -1, p), -5);
        Due.is("21 CELLS of it", c.cellsOf(p) + " " + c.cellsOf(pT), "2 -1");
    }

    private static void bases() {
        c = new Cellruntime();
        int[] chain = new int[12];
        for (int t = 0; t < 12; t++) chain[t] = type(0, false, -1, t == 0 ? 1 : t == 6 ? 2 : chain[t - 1]);
        for (int t = 0; t < 12; t++) {
            for (int u = 0; u < 12; u++) isA(t >= u && t / 6 == u / 6, chain[t], chain[u]);
            isA(true, chain[t], 1);
            isA(t >= 6, chain[t], 2);
            isA(false, 1, chain[t]);
            isA(false, 2, chain[t]);
        }
        isA(true, 2, 1);
        isA(false, 1, 2);
        isA(true, 1, 1);
        isA(true, 2, 2);
    }

    private static void rows() {
        c = new Cellruntime();
        int a = type(0, false, -1, 1);
        int b = type(0, false, -1, a);
        int s = type(1, false, -1, -1);
        int i = type(2, false, -1, -1);
        c.implement(1, i);
        c.implement(2, i);
        int d = type(3, false, -1, -1);
        int[] of = {0, 1, 2, 3, a, b, s, i, d};
        int[] row = new int[of.length];
        int[] rows = new int[of.length];
        for (int k = 0; k < of.length; k++) {
            row[k] = c.expr(2, of[k], 0);
            rows[k] = c.expr(2, row[k], 0);
        }
        // Which is which, of those above: itself, and what it IS A if both are REFERENCES.
        for (int x = 0; x < of.length; x++) for (int y = 0; y < of.length; y++) {
            boolean is = x == y || of[y] == 1 && x != 0 && x != 3 && x != 6 || of[x] == b && (of[y] == a || of[y] == i);
            isA(is, row[x], row[y]);
            isA(is, rows[x], rows[y]);
            isA(false, row[x], rows[y]);
            isA(of[y] == 1, rows[x], row[y]);
            isA(false, row[x], of[y] == 1 ? 2 : of[y]);
        }
        for (int x = 0; x < of.length; x++) {
            isA(true, row[x], 1);
            isA(true, rows[x], 1);
            isA(false, 1, row[x]);
        }
    }

    /** T, VALUES and PLACES are nothing, not even themselves. */
    private static void neverReferences() {
        c = new Cellruntime();
        int s = type(1, false, -1, -1);
        int i = type(2, false, -1, -1);
        c.implement(0, i);
        int g = type(0, true, i, 1);
        int[] all = {0, 3, s, c.expr(3, 1, 0), c.expr(3, s, 0), c.expr(3, 3, 0)};
        for (int x : all) {
            for (int y : all) isA(false, x, y);
            isA(false, x, 1);
            isA(false, 1, x);
            isA(false, x, i);
            isA(false, i, x);
        }
        isA(true, g, 1);
        isA(true, g, g);
        isA(true, i, 1);
        isA(true, i, i);
        keeps(true, s, i, -1);
        keeps(true, 3, i, 2);
        keeps(false, 3, i, 1);
        for (int x : new int[] {0, 1, 2, c.expr(2, s, 0), c.expr(3, s, 0), g}) keeps(false, x, i, 2);
    }

    private static void contracts() {
        c = new Cellruntime();
        int[] i = new int[4];
        for (int k = 0; k < 4; k++) i[k] = type(2, false, -1, -1);
        int a = type(0, false, -1, 1);
        int s = type(1, false, -1, -1);
        for (int t = 4; t <= 5; t++) {
            int x = t == 4 ? a : s;
            int first = t == 4 ? 3 : 0;
            int second = t == 4 ? 1 : 2;
            for (int k = 0; k < 4; k++) keeps(false, x, i[k], -1);
            Due.is("4 the first one", c.implement(t, i[first]), 1);
            for (int k = 0; k < 4; k++) keeps(k == first, x, i[k], -1);
            Due.is("4 that again", c.implement(t, i[first]), -5);
            Due.is("4 the second one", c.implement(t, i[second]), 2);
            Due.is("4 a third one", c.implement(t, i[t == 4 ? 0 : 3]), -2);
            Due.is("18 how many", c.ofType(t, 4), 2);
            for (int k = 0; k < 4; k++) {
                keeps(k == first || k == second, x, i[k], -1);
                isA(x == a && (k == first || k == second), x, i[k]);
            }
        }
        for (int k = 0; k < 4; k++) keeps(k == 3 || k == 1, a, i[k], -1);
        for (int k = 0; k < 4; k++) for (int n = 0; n < 4; n++) keeps(k == n, i[k], i[n], -1);
        for (int y : new int[] {0, 1, 2, 3, a, s}) keeps(false, a, y, -1);
    }

    /** A CONTRACT of one of the BASES, FOR that. */
    private static void contractsOfBases() {
        c = new Cellruntime();
        int iT = type(2, true, -1, -1);
        int aT = type(0, true, -1, 1);
        int rowT = c.expr(2, 3, 0);
        int iRowT = c.expr(1, 0, rowT);
        c.implement(1, iRowT);
        c.implement(1, iT);
        int aRow = c.expr(1, 1, rowT);
        int bT = type(0, true, -1, aRow);
        int aInt = c.expr(1, 1, 0);
        int bInt = c.expr(1, 2, 0);
        int d = type(0, false, -1, bInt);
        int rowInt = c.expr(2, 0, 0);
        int rowsInt = c.expr(2, rowInt, 0);
        int iInt = c.expr(1, 0, 0);
        int iRow = c.expr(1, 0, rowInt);
        int iRows = c.expr(1, 0, rowsInt);
        int iRowsT = c.expr(1, 0, c.expr(2, rowT, 0));
        int[] all = {iT, iRowT, iRowsT, iInt, iRow, iRows};
        int[][] want = {{aT, 1, 1, 0, 0, 0, 0}, {aInt, 0, 0, 0, 1, 1, 0}, {bT, 0, 1, 1, 0, 0, 0}, {bInt, 0, 0, 0, 0, 1, 1}, {d, 0, 0, 0, 0, 1, 1}};
        for (int[] k : want) for (int n = 0; n < 6; n++) {
            keeps(k[n + 1] == 1, k[0], all[n], -1);
            isA(k[n + 1] == 1, k[0], all[n]);
        }
        isA(true, c.expr(2, d, 0), c.expr(2, iRow, 0));
        isA(false, c.expr(2, d, 0), c.expr(2, iInt, 0));
    }

    /** T KEEPS just the BOUND of the TYPE that is told. */
    private static void bounds() {
        c = new Cellruntime();
        int i = type(2, false, -1, -1);
        int jT = type(2, true, -1, -1);
        int jInt = c.expr(1, 1, 0);
        int a = type(0, true, i, 1);
        int b = type(0, true, jInt, 1);
        int d = type(0, true, -1, 1);
        int e = type(3, true, i, -1);
        int f = type(2, true, jInt, -1);
        type(0, false, -1, 1);
        int[] bound = {-1, -1, i, jInt, -1, i, jInt, -1};
        for (int t = -1; t < 8; t++) {
            for (int y : new int[] {i, jInt, jT, 0, 1, 3, a}) keeps(t >= 0 && y == bound[t], 3, y, t);
            if (t >= 0) Due.is("18 the BOUND of " + t, c.ofType(t, 2), bound[t]);
        }
        // GOOD: the ARGUMENT T of each in each.
        int[] of = {a, b, d, e, f};
        int[] need = {i, jInt, -1, i, jInt};
        boolean[] open = {false, true, true, true, true, true, true, false};
        for (int t = -1; t < 8; t++) for (int k = 0; k < of.length; k++) {
            boolean want = t >= 0 && open[t] && (need[k] < 0 || bound[t] == need[k]);
            Due.is("24 " + c.exprText(of[k]) + " in " + t, c.isGood(of[k], t), want);
        }
    }

    private static void good() {
        c = new Cellruntime();
        int i = type(2, false, -1, -1);
        int gT = type(0, true, i, 1);
        int hT = type(0, true, -1, 1);
        int k = type(0, false, -1, 1);
        c.implement(3, i);
        int s = type(1, false, -1, -1);
        c.implement(4, i);
        Due.is("24 an ARGUMENT that is good in one that does not keep", c.isGood(c.expr(1, 1, c.expr(1, 1, k)), -1), false);
        int[][] all = {
            {c.expr(1, 1, 0), 0}, {c.expr(1, 1, 1), 0}, {c.expr(1, 1, 2), 0}, {c.expr(1, 1, i), 1}, {c.expr(1, 1, k), 1}, {c.expr(1, 1, s), 1}, {c.expr(1, 2, 0), 1}, {c.expr(1, 2, 1), 1},
        };
        for (int[] x : all) {
            for (int t = -1; t < 5; t++) Due.is("24 " + c.exprText(x[0]) + " in " + t, c.isGood(x[0], t), x[1] == 1);
            // However deep: in a ROW, an ARGUMENT, a PLACE.
            int[] in = {c.expr(2, x[0], 0), c.expr(1, 2, x[0]), c.expr(3, x[0], 0)};
            for (int y : in) Due.is("24 " + c.exprText(y), c.isGood(y, -1), x[1] == 1);
        }
        for (int x : new int[] {3, gT, hT}) for (int t = -1; t < 5; t++) {
            boolean want = t == 1 || t == 2 && x != gT;
            Due.is("24 " + c.exprText(x) + " in " + t, c.isGood(x, t), want);
        }
    }

    /** What is not GOOD is let as soon as it is. */
    private static void goodLater() {
        c = new Cellruntime();
        int i = type(2, false, -1, -1);
        type(0, true, i, 1);
        int k = type(0, false, -1, 1);
        int g = c.expr(1, 1, k);
        Due.is("5 not yet", c.field(2, g, false), -4);
        Due.is("6 not yet", c.method(2, 0, 0, g), -4);
        Due.is("2 not yet", c.type(0, false, -1, g), -5);
        Due.is("4 it keeps it then", c.implement(2, i), 1);
        Due.is("5 then", c.field(2, g, false), 0);
        Due.is("6 then", c.method(2, 0, 0, g), 0);
        Due.is("7 then", c.param(0, g), 1);
        Due.is("8 then", c.local(0, g), 1);
        Due.is("2 then", c.type(0, false, -1, g), 3);
    }

    private static void cells() {
        c = new Cellruntime();
        int a = type(0, false, -1, 1);
        int i = type(2, false, -1, -1);
        int d = type(3, false, -1, -1);
        int s = type(1, false, -1, -1);
        int g = type(0, true, -1, 1);
        int[][] all = {{0, 1}, {1, 1}, {2, 1}, {3, -1}, {a, 1}, {i, 1}, {d, 1}, {s, 1}, {g, -1}};
        for (int[] x : all) {
            Due.is("21 of " + c.exprText(x[0]), c.cellsOf(x[0]), x[1]);
            Due.is("21 of a ROW of it", c.cellsOf(c.expr(2, x[0], 0)), x[1]);
            Due.is("21 of a PLACE of it", c.cellsOf(c.expr(3, x[0], 0)), x[1] < 0 ? -1 : 2);
            Due.is("21 as an ARGUMENT", c.cellsOf(c.expr(1, 4, x[0])), x[1]);
        }
        for (int k = 0; k < 4; k++) c.field(3, k % 2, false);
        Due.is("21 of a STRUCT of four", c.cellsOf(s) + " " + c.cellsOf(c.expr(2, s, 0)) + " " + c.cellsOf(c.expr(3, s, 0)), "4 1 2");
    }

    /** At most 8, by each way to come there. */
    private static void cellsOfStructs() {
        for (int first = 0; first <= 4; first++) for (int second = 0; second <= 4; second++) {
            c = new Cellruntime();
            int[] s = new int[4];
            for (int t = 0; t < 4; t++) s[t] = type(1, false, -1, -1);
            for (int k = 0; k < first; k++) c.field(0, 0, false);
            for (int k = 0; k < second; k++) c.field(1, 1, false);
            int sum = 0;
            int[] of = {s[0], s[1], s[0], 0};
            int[] more = {Math.max(first, 1), Math.max(second, 1), Math.max(first, 1), 1};
            for (int k = 0; k < 4; k++) {
                boolean is = sum + more[k] <= 8;
                String told = "5 " + sum + " and " + more[k];
                Due.is(told, c.field(2, of[k], false) >= 0, is);
                if (!is) Due.is(told, c.field(2, of[k], false), -6);
                if (is) sum += more[k];
                Due.is("21 CELLS then", c.cellsOf(s[2]), sum);
            }
        }
        c = new Cellruntime();
        int[] s = new int[3];
        for (int t = 0; t < 3; t++) s[t] = type(1, false, -1, -1);
        Due.is("5 itself", c.field(1, s[1], false), -6);
        Due.is("5 the next one", c.field(1, s[2], false), -6);
        Due.is("5 the one before", c.field(1, s[0], false), 0);
        Due.is("5 a ROW of itself", c.field(1, c.expr(2, s[1], 0), false), 1);
        Due.is("5 a ROW of the next one", c.field(1, c.expr(2, s[2], 0), false), 2);
        Due.is("5 STATIC itself", c.field(1, s[1], true), 3);
        Due.is("5 no fifth one", c.field(1, 0, true), -5);
        Due.is("21 its CELLS", c.cellsOf(s[1]), 3);
        Due.is("5 of the first one none", c.field(0, s[0], false), -6);
        // A CLASS may have any STRUCT.
        c.type(0, false, -1, 1);
        Due.is("5 of a CLASS", c.field(3, s[2], false), 4);
    }

    private static void fields() {
        c = new Cellruntime();
        int t = 0;
        for (int f = 0; f < 24; f++) {
            if (f % 4 == 0) t = c.type(f % 8 == 0 ? 0 : 1, false, -1, f % 8 == 0 ? 1 : -1);
            Due.is("5 FIELD " + f, c.field(t, f % 3, f % 2 == 0), f);
            Due.is("26 its TYPE", c.ofField(f, 0), f / 4);
            Due.is("26 its EXPRESSION", c.ofField(f, 1), f % 3);
            Due.is("26 STATIC", c.ofField(f, 2), f % 2 == 0 ? 1 : 0);
            int want = f % 4 == 3 ? -5 : 0;
            if (want < 0 && f < 23) Due.is("5 no fifth one of it", c.field(t, 0, true), want);
            Due.is("18 how many", c.ofType(t, 5), f % 4 + 1);
            int n = f + 1;
            Due.fails("26 no more", Due.INDEX, () -> c.ofField(n, 0));
        }
        Due.is("5 a 25th", c.field(c.type(0, false, -1, 1), 0, true), -2);
    }

    private static void whole() {
        c = new Cellruntime();
        int i = type(2, false, -1, -1);
        int a = type(0, false, -1, 1);
        c.implement(1, i);
        type(1, false, -1, -1);
        c.implement(2, i);
        Due.is("18 an INTERFACE without METHODS asks for nothing", c.ofType(0, 7) + "" + c.ofType(1, 7) + c.ofType(2, 7), "111");
        c.method(0, 3, 2, -1);
        Due.is("18 one METHOD", c.ofType(0, 7) + "" + c.ofType(1, 7) + c.ofType(2, 7), "100");
        int ofClass = c.method(1, 3, 2, -1);
        Due.is("18 of the CLASS", c.ofType(1, 7) + "" + c.ofType(2, 7), "10");
        int ofStruct = c.method(2, 3, 2, -1);
        Due.is("18 of both", c.ofType(1, 7) + "" + c.ofType(2, 7), "11");
        c.method(0, 4, 2, -1);
        Due.is("18 two METHODS", c.ofType(1, 7) + "" + c.ofType(2, 7), "00");
        c.method(1, 4, 0, -1);
        c.method(1, 4, 1, -1);
        Due.is("18 STATIC and OWN ones are none", c.ofType(1, 7), 0);
        c.method(1, 4, 2, -1);
        c.method(2, 4, 2, -1);
        Due.is("18 both of both", c.ofType(1, 7) + "" + c.ofType(2, 7), "11");
        c.param(ofClass, 0);
        Due.is("18 it is given more then", c.ofType(1, 7), 0);
        c.param(0, 0);
        Due.is("18 likewise what is asked for", c.ofType(1, 7) + "" + c.ofType(2, 7), "10");
        c.param(ofStruct, 1);
        Due.is("18 something else", c.ofType(2, 7), 0);
        // A second CONTRACT.
        int j = type(2, false, -1, -1);
        c.method(3, 5, 2, 0);
        c.implement(1, j);
        Due.is("18 the second CONTRACT", c.ofType(1, 7), 0);
        c.method(1, 5, 2, 1);
        Due.is("18 with another RESULT", c.ofType(1, 7), 0);
        c.method(1, 5, 2, 0);
        Due.is("18 with that", c.ofType(1, 7), 1);
        Due.is("25 none is asked for by itself", c.answer(a, 0, i), ofClass);
        c.type(0, false, -1, 2);
        c.type(1, false, -1, -1);
        Due.is("18 without CONTRACTS", c.ofType(4, 7) + "" + c.ofType(5, 7), "11");
        Due.is("34 ALL is not RIGHT", c.isRight(), false);
    }

    /** For each CONTRACT of one of the BASES, FOR that: SELF has to have an ANSWER. */
    private static void wholeOfBases() {
        c = new Cellruntime();
        type(2, true, -1, -1);
        int rowT = c.expr(2, 3, 0);
        int iRowT = c.expr(1, 0, rowT);
        c.method(0, 1, 2, 3);
        type(0, true, -1, 1);
        c.implement(1, iRowT);
        int aInt = c.expr(1, 1, 0);
        int aRow = c.expr(1, 1, rowT);
        type(0, false, -1, aInt);
        type(0, true, -1, aRow);
        Due.is("18 none of them", c.ofType(1, 7) + "" + c.ofType(2, 7) + c.ofType(3, 7), "000");
        int rowInt = c.expr(2, 0, 0);
        c.method(2, 1, 2, rowInt);
        Due.is("18 FOR int it is int[]", c.ofType(1, 7) + "" + c.ofType(2, 7) + c.ofType(3, 7), "010");
        c.method(3, 1, 2, rowT);
        Due.is("18 FOR T[] it is not T[]", c.ofType(3, 7), 0);
        c.method(3, 1, 2, c.expr(2, rowT, 0));
        Due.is("18 it is T[][]", c.ofType(1, 7) + "" + c.ofType(2, 7) + c.ofType(3, 7), "011");
        c.method(1, 1, 2, rowT);
        Due.is("18 all of them", c.ofType(1, 7) + "" + c.ofType(2, 7) + c.ofType(3, 7), "111");
        // Of a BASE alone it would do, too.
        int b = type(0, false, -1, aInt);
        Due.is("18 by its BASE", c.ofType(4, 7), 1);
        Due.is("25 by its BASE", c.answer(b, 0, c.expr(1, 0, rowInt)), 4);
    }

    private static void answers() {
        c = new Cellruntime();
        int a = type(0, false, -1, 1);
        int s = type(1, false, -1, -1);
        int[] x = {a, s};
        for (int t = 0; t <= 1; t++) {
            int own = c.method(t, 3, 1, -1);
            Due.is("25 none", c.answer(x[t], own, x[t]), -1);
            int still = c.method(t, 3, 0, -1);
            Due.is("25 none still", c.answer(x[t], still, x[t]), -1);
            int first = c.method(t, 3, 2, -1);
            int second = c.method(t, 3, 2, -1);
            for (int m : new int[] {own, still, first, second}) Due.is("25 of several the first that is VIRTUAL", c.answer(x[t], m, x[t]), first);
            c.param(first, 0);
            Due.is("25 then the other one", c.answer(x[t], own, x[t]), second);
            Due.is("25 to itself", c.answer(x[t], first, x[t]), first);
            int other = c.method(t, 9, 2, -1);
            Due.is("25 another NAME", c.answer(x[t], other, x[t]), other);
        }
        Due.is("25 of a STRUCT to one of a CLASS", c.answer(s, 1, a), 8);
    }

    private static void answersAbove() {
        c = new Cellruntime();
        int[] chain = new int[12];
        for (int t = 0; t < 12; t++) chain[t] = type(0, false, -1, t == 0 ? 2 : chain[t - 1]);
        c.method(0, 1, 2, 0);
        c.method(5, 1, 2, 0);
        c.method(7, 1, 1, 0);
        c.method(9, 1, 2, 1);
        c.method(11, 1, 2, 0);
        int[] want = {0, 0, 0, 0, 0, 1, 1, 1, 1, 1, 1, 4};
        for (int t = 0; t < 12; t++) {
            Due.is("25 of " + t, c.answer(chain[t], 0, chain[0]), want[t]);
            Due.is("25 to another one of " + t, c.answer(chain[t], 3, chain[9]), t >= 9 ? 3 : -1);
        }
    }

    private static void delegates() {
        c = new Cellruntime();
        int d = type(3, false, -1, -1);
        Due.is("18 without a METHOD", c.ofType(0, 7), 0);
        Due.is("34 ALL is not RIGHT", c.isRight(), false);
        for (int mode = 0; mode <= 1; mode++) Due.is("6 not VIRTUAL", c.method(0, 0, mode, -1), -3);
        int m = c.method(0, 0, 2, -1);
        Due.is("6 one", m, 0);
        Due.is("6 a second one", c.method(0, 1, 2, -1), -3);
        Due.is("18 with one", c.ofType(0, 7) + " " + c.ofType(0, 6), "1 1");
        Due.is("7 what it is given", c.param(m, d) + " " + c.param(m, 0) + " " + c.param(m, c.expr(3, 0, 0)) + " " + c.param(m, 0), "1 2 3 -2");
        Due.is("8 no LOCALS", c.local(m, 0), -3);
        Due.is("9 no INSTRUCTIONS", c.code(m, 0, 0, 0), -3);
        Due.is("11 none to cut", c.cut(m, 0), 0);
        Due.is("12 no HANDLERS", c.handler(m, 0, 0, 1, 1, 2), -3);
        Due.is("14 none that goes", c.unhandle(m), -2);
        Due.is("31 it is RIGHT", c.error(m) + " " + c.errorPlace(m), "0 -1");
        Due.is("34 ALL is RIGHT", c.isRight(), true);
    }

    /** Up to 40 and 4, from 0 on; what is changed is told. */
    private static void handlers() {
        c = new Cellruntime();
        type(0, false, -1, 1);
        int m = c.method(0, 0, 0, -1);
        int[][] all = {{0, 0, 0, 0, 0}, {1, 40, 40, 40, 40}, {2, 40, 0, 40, 0}, {3, 1, 2, 3, 4}};
        for (int h = 0; h < 4; h++) {
            Due.is("12 HANDLER " + h, c.handler(m, all[h][0], all[h][1], all[h][2], all[h][3], all[h][4]), h);
            for (int k = 0; k < 5; k++) Due.is("30 " + h + " " + k, c.ofHandler(m, h, k), all[h][k]);
            Due.is("30 " + h + " with", c.ofHandler(m, h, 5), h == 0 ? 2 : h == 1 ? 40 : -1);
        }
        Due.is("13 the place 0", c.handles(m, 1, 0), 40);
        Due.is("13 the place 40", c.handles(m, 1, 40), 0);
        Due.is("13 the same", c.handles(m, 1, 40), 40);
        for (int with : new int[] {Integer.MAX_VALUE, 48, 3, 0, -1, Integer.MIN_VALUE}) {
            int before = c.ofHandler(m, 0, 5);
            Due.is("13 any number of a CATCH", c.handles(m, 0, with), before);
            Due.is("30 it is told", c.ofHandler(m, 0, 5), with);
        }
        for (int left = 3; left >= 0; left--) Due.is("14 one less", c.unhandle(m), left);
        Due.is("14 none", c.unhandle(m), -2);
        Due.is("12 again", c.handler(m, 1, 1, 2, 3, 4), 0);
        Due.is("30 with where its BLOCK begins", c.ofHandler(m, 0, 5), 3);
        for (int p = 0; p < 40; p++) Due.is("9 INSTRUCTION " + p, c.code(m, p % 58, p, -p), p + 1);
        for (int p = 0; p < 40; p++) Due.is("10 INSTRUCTION " + p, c.change(m, p, 57 - p, 0, 0), p % 58);
        for (int p = 0; p < 40; p++) Due.is("10 again " + p, c.change(m, p, 0, 0, 0), 57 - p);
        Due.is("11 none", c.cut(m, 0), 40);
        Due.is("11 one", c.cut(m, 1), 39);
        Due.is("11 all but one", c.cut(m, 38), 1);
        Due.fails("11 more than there are", Due.ARGUMENT, () -> c.cut(m, 2));
        Due.is("11 all", c.cut(m, 1), 0);
        Due.is("11 none of none", c.cut(m, 0), 0);
        Due.fails("29 none is told", Due.INDEX, () -> c.codeText(m, 0));
    }
}
