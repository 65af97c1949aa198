/** Promises 35 to 40, and what instructions do as they run. */
public final class RunTest {
    private static Cellruntime c;

    public static void main(String[] args) {
        limit();
        share();
        run();
        runOfWrong();
        ofRun();
        areSame();
        entries();
        sums();
        jumps();
        slots();
        objects();
        structs();
        statics();
        boxes();
        casts();
        rows();
        rowsOfReferences();
        places();
        calls();
        callsOfAnswers();
        callsOnPlaces();
        callsOfT();
        binds();
        holders();
        bodies();
        cut();
        Due.end("RunTest");
    }

    /** A new one with t0, a CLASS of object, and m0, STATIC, given three INTS, with RESULT INT; the EXPRESSION of t0 is 4. */
    private static int world() {
        c = new Cellruntime();
        c.type(0, false, -1, 1);
        c.expr(0, 0, 0);
        int m = c.method(0, 0, 0, 0);
        for (int k = 0; k < 3; k++) c.param(m, 0);
        return m;
    }

    private static void due(String code, String want) {
        c.cut(0, c.ofMethod(0, 6));
        Due.write(c, 0, code);
        Due.is("37 " + code, Due.run(c, 0, 7, 3, -2), want);
    }

    private static void limit() {
        Cellruntime d = new Cellruntime();
        Due.fails("35 19", Due.ARGUMENT, () -> d.limit(19));
        Due.fails("35 201", Due.ARGUMENT, () -> d.limit(201));
        Due.is("35 the first one", d.limit(20), 120);
        Due.is("35 again", d.limit(200), 20);
        Due.is("35 told", d.house(4), 200);
        world();
        c.local(0, 1);
        c.limit(20);
        due("num 12; row 0; len; ret", "0 0 12 []");
        due("num 12; row 0; setloc 0; make 1; pop; cells; ret", "0 0 15 []");
        due("num 12; row 0; setloc 0; num 0; row 0; pop; num 1; ret", "0 0 1 []");
        due("num 12; row 0; setloc 0; num 3; row 0; pop; num 1; ret", "1 5 0 []");
        c.limit(21);
        Due.is("35 one more", Due.run(c, 0, 0, 0, 0), "0 0 1 []");
        roomForEach();
    }

    /** Each kind of THING just fits, and does not by one CELL more. */
    private static void roomForEach() {
        world();
        c.type(3, false, -1, -1);
        int d = c.expr(0, 1, 0);
        c.method(1, 0, 2, -1);
        int s = c.method(0, 1, 0, -1);
        Due.write(c, s, "ret");
        c.local(0, 1);
        String[] made = {"make 1", "make 2", "num 1; box 0", "bind " + s + " " + d, "num 0; row 0"};
        int[] cells = {2, 3, 3, 5, 3};
        for (int k = 0; k < made.length; k++) {
            for (int less = 0; less <= 1; less++) {
                c.limit(24);
                due("num 12; row 0; setloc 0; " + made[k] + "; cells; out; pop; num 1; ret", "0 0 1 [" + (15 + cells[k]) + "]");
                c.limit(20);
                int length = 20 - 3 - cells[k] + less;
                String want = less == 0 ? "0 0 1 []" : "1 5 0 []";
                due("num " + Math.min(length, 12) + "; row 0; setloc 0; " + (length > 12 ? "nop" : made[k] + "; pop") + "; num 1; ret", length > 12 ? "0 0 1 []" : want);
                // With an object of 2 CELLS beside the ROW.
                due("num " + (length - 2) + "; row 0; setloc 0; make 1; " + made[k] + "; pop; pop; num 1; ret", length - 2 > 12 ? "1 8 0 []" : want);
            }
        }
    }

    private static void share() {
        Cellruntime d = new Cellruntime();
        Due.is("36 at first", d.share(false), true);
        Due.is("36 then", d.share(true), false);
        Due.is("36 again", d.share(true), true);
        d.share(false);
        Due.is("36 told", d.house(5), 0);
    }

    private static void run() {
        Cellruntime d = new Cellruntime();
        Due.is("38 without a run", d.out(), "");
        d.sample(1);
        Due.is("37 WAY 0", d.run(3, 0, 7, 1, 2), 0);
        Due.is("38 OUT", d.out(), "7 108");
        Due.is("37 WAY 1", d.run(3, 1, 9, 1, 2), 0);
        Due.is("38 OUT again", d.out(), "9 110");
        d.sample(2);
        Due.is("38 it stays", d.out(), "9 110");
        Due.is("37 another one", d.run(0, 0, 1, 0, 0), 0);
        Due.is("38 its OUT", d.out(), "10 7");
    }

    private static void runOfWrong() {
        Cellruntime d = new Cellruntime();
        d.sample(1);
        Due.fails("37 no METHOD", Due.INDEX, () -> d.run(4, 2, 0, 0, 0));
        Due.fails("37 no METHOD below", Due.INDEX, () -> d.run(-1, 0, 0, 0, 0));
        Due.fails("37 WAY 2", Due.ARGUMENT, () -> d.run(0, 2, 0, 0, 0));
        Due.fails("37 WAY -1", Due.ARGUMENT, () -> d.run(0, -1, 0, 0, 0));
        Due.is("37 no ENTRY", d.run(1, 0, 0, 0, 0), -2);
        d.change(3, 0, 9, 0, 0);
        Due.is("37 -2 ahead of -3", d.run(0, 0, 0, 0, 0), -2);
        Due.is("37 not RIGHT", d.run(3, 0, 0, 0, 0), -3);
        Due.is("52 no runs", d.house(0), 0);
        Due.is("39 no runs", d.ofRun(0), -1);
        d.change(3, 0, 1, 2, 0);
        d.method(0, 7, 2, -1);
        Due.is("37 not WHOLE", d.run(3, 0, 0, 0, 0), -3);
        Cellruntime e = new Cellruntime();
        e.sample(2);
        e.type(3, false, -1, -1);
        Due.is("37 a DELEGATE without a METHOD", e.run(0, 0, 1, 0, 0), -3);
    }

    private static void ofRun() {
        Cellruntime d = new Cellruntime();
        for (int k = 0; k < 5; k++) Due.is("39 without a run", d.ofRun(k), -1);
        Due.fails("39 what -1", Due.ARGUMENT, () -> d.ofRun(-1));
        Due.fails("39 what 5", Due.ARGUMENT, () -> d.ofRun(5));
        d.sample(2);
        d.run(0, 1, 2, 0, 0);
        int[] want = {0, 0, 11, 0, 1};
        for (int k = 0; k < 5; k++) Due.is("39 ofRun(" + k + ")", d.ofRun(k), want[k]);
        d.run(0, 0, 0, 0, 0);
        int[] next = {0, 0, 12, 4, 0};
        for (int k = 0; k < 5; k++) Due.is("39 behind another one " + k, d.ofRun(k), next[k]);
        d.sample(6);
        d.run(1, 0, 8, 0, 0);
        Due.is("39 END UNCAUGHT", d.ofRun(0), 1);
        Due.is("39 CODE", d.ofRun(1), 6);
        Due.is("39 RESULT of that", d.ofRun(3), 0);
        d.run(0, 0, 0, 0, 0);
        Due.is("39 CODE that was set", d.ofRun(1), 9);
    }

    private static void areSame() {
        Cellruntime d = new Cellruntime();
        d.sample(3);
        d.share(false);
        d.run(2, 1, 3, 0, 0);
        d.walk(2, 3, 0, 0);
        Due.is("40 areSame(2)", d.areSame(2, 5, 0, 0), true);
        Due.is("40 no run of run()", d.house(0), 1);
        Due.is("40 SHARED stays", d.house(5), 0);
        Due.is("40 the last run stays", d.ofRun(3), 3);
        Due.is("40 the WALK stays", d.stop(), 1);
        Due.fails("40 no METHOD", Due.INDEX, () -> d.areSame(3, 0, 0, 0));
        Due.fails("40 no ENTRY", Due.STATE, () -> d.areSame(0, 0, 0, 0));
        d.change(2, 0, 20, 0, 0);
        Due.fails("40 not RIGHT", Due.STATE, () -> d.areSame(2, 0, 0, 0));
        world();
        due("go 0", "2 0 0 []");
        due("null; throw", "1 1 0 []");
    }

    private static void entries() {
        Cellruntime d = new Cellruntime();
        d.type(0, false, -1, 1);
        d.type(0, true, -1, 1);
        d.type(1, false, -1, -1);
        int place = d.expr(3, 0, 0);
        int[][] all = {
            {0, 0, 0, -1, 0}, {0, 0, -1, -1, 0}, {2, 0, 0, 0, 0}, {0, 1, 0, -1, -2}, {0, 2, -1, -1, -2}, {1, 0, 0, -1, -2}, {0, 0, 1, -1, -2},
            {0, 0, 0, 1, -2}, {0, 0, 0, place, -2}, {0, 0, place, -1, -2},
        };
        for (int[] k : all) {
            int m = d.method(k[0], 0, k[1], k[2]);
            if (k[3] >= 0) d.param(m, k[3]);
            Due.write(d, m, k[2] == 0 ? "num 5; ret" : k[2] < 0 ? "ret" : k[2] == place ? "null; unbox 0; ret" : "null; ret");
            Due.is("37 as an ENTRY: " + java.util.Arrays.toString(k), d.run(m, 0, 1, 1, 1), k[4]);
        }
    }

    private static void sums() {
        world();
        due("arg 0; arg 1; add; ret", "0 0 10 []");
        due("arg 0; arg 1; sub; ret", "0 0 4 []");
        due("arg 0; arg 2; mul; ret", "0 0 -14 []");
        due("arg 0; arg 1; div; ret", "0 0 2 []");
        due("arg 0; arg 2; div; ret", "0 0 -3 []");
        due("arg 0; arg 2; rem; ret", "0 0 1 []");
        due("arg 2; arg 1; rem; ret", "0 0 -2 []");
        due("arg 0; num 0; div; ret", "1 4 0 []");
        due("arg 0; num 0; rem; ret", "1 4 0 []");
        due("arg 0; arg 1; lt; out; arg 1; arg 0; lt; out; arg 0; dup; lt; ret", "0 0 0 [0 1]");
        due("arg 0; dup; eq; out; arg 0; arg 1; eq; ret", "0 0 0 [1]");
        due("null; null; eq; out; make 1; dup; eq; out; make 1; make 1; eq; out; make 1; null; eq; ret", "0 0 0 [1 1 0]");
        due("num 5; box 0; num 5; box 0; eq; ret", "0 0 0 []");
        due("num 9999; dup; mul; dup; mul; ret", "0 0 " + 9999 * 9999 * (9999 * 9999) + " []");
        c.cut(0, c.ofMethod(0, 6));
        Due.write(c, 0, "arg 0; arg 1; div; out; arg 0; arg 1; rem; out; arg 0; arg 2; sub; ret");
        Due.is("37 the least number", Due.run(c, 0, Integer.MIN_VALUE, -1, 1), "0 0 " + Integer.MAX_VALUE + " [" + Integer.MIN_VALUE + " 0]");
    }

    private static void jumps() {
        world();
        due("arg 0; if 4; num 1; ret; num 2; ret", "0 0 2 []");
        due("num 0; if 4; num 1; ret; num 2; ret", "0 0 1 []");
        due("arg 2; ifnot 4; num 1; ret; num 2; ret", "0 0 1 []");
        due("null; if 4; num 1; ret; num 2; ret", "0 0 1 []");
        due("null; ifnot 4; num 1; ret; num 2; ret", "0 0 2 []");
        due("make 1; if 4; num 1; ret; num 2; ret", "0 0 2 []");
        due("go 3; num 1; ret; num 2; ret", "0 0 2 []");
        due("num 3; leave 3; nop; num 4; ret", "0 0 4 []");
        due("nop; num 1; num 2; pop; dup; add; ret", "0 0 2 []");
    }

    private static void slots() {
        world();
        c.local(0, 0);
        c.local(0, 1);
        due("loc 0; out; arg 0; setloc 0; loc 0; out; num 9; setarg 0; arg 0; ret", "0 0 9 [0 7]");
        due("locp 0; dup; num 4; store 0; load 0; out; argp 1; load 0; out; argp 1; init 0; arg 1; out; loc 0; ret", "0 0 4 [4 3 0]");
        due("loc 1; if 4; num 1; ret; num 2; ret", "0 0 1 []");
        due("locp 1; make 1; store 1; loc 1; if 7; num 1; ret; num 2; ret", "0 0 2 []");
    }

    private static void objects() {
        world();
        int f = c.field(0, 0, false);
        int g = c.field(0, 4, false);
        c.local(0, 4);
        due("make 4; setloc 0; loc 0; get " + f + " 4; out; loc 0; num 6; set " + f + " 4; loc 0; get " + f + " 4; ret", "0 0 6 [0]");
        due("make 4; dup; setloc 0; loc 0; set " + g + " 4; loc 0; get " + g + " 4; loc 0; eq; ret", "0 0 1 []");
        due("make 4; setloc 0; loc 0; getp " + f + " 4; num 8; store 0; loc 0; get " + f + " 4; ret", "0 0 8 []");
        due("null; get " + f + " 4; ret", "1 1 0 []");
        due("null; num 1; set " + f + " 4; num 1; ret", "1 1 0 []");
        due("null; getp " + f + " 4; pop; num 1; ret", "1 1 0 []");
        due("make 2; dup; codeof; out; dup; num 44; setcode; codeof; ret", "0 0 44 [0]");
        due("null; codeof; ret", "1 1 0 []");
        due("null; num 1; setcode; num 1; ret", "1 1 0 []");
        c.type(0, false, -1, 2);
        int x = c.expr(0, 1, 0);
        int h = c.field(1, 0, false);
        c.local(0, x);
        due("make " + x + "; setloc 1; loc 1; num 5; set " + h + " " + x + "; loc 1; num 6; setcode; loc 1; get " + h + " " + x + "; out; loc 1; codeof; ret", "0 0 6 [5]");
    }

    private static void structs() {
        world();
        c.type(1, false, -1, -1);
        int s = c.expr(0, 1, 0);
        c.type(1, false, -1, -1);
        int u = c.expr(0, 2, 0);
        int f = c.field(1, 0, false);
        int g = c.field(1, 0, false);
        int h = c.field(2, 0, false);
        int in = c.field(2, s, false);
        c.local(0, s);
        c.local(0, u);
        c.local(0, u);
        String set = "locp 1; getp " + in + " " + u + "; num 5; set " + g + " " + s + "; ";
        due(set + "loc 1; get " + in + " " + u + "; get " + g + " " + s + "; ret", "0 0 5 []");
        due(set + "loc 1; setloc 2; " + set.replace("num 5", "num 6") + "loc 2; get " + in + " " + u + "; get " + g + " " + s + "; out; loc 1; get " + in + " " + u
            + "; setloc 0; loc 0; get " + g + " " + s + "; out; loc 0; get " + f + " " + s + "; ret", "0 0 0 [5 6]");
        due(set + "locp 1; init " + u + "; locp 1; get " + in + " " + u + "; get " + g + " " + s + "; ret", "0 0 0 []");
        due(set + "locp 1; load " + u + "; dup; get " + h + " " + u + "; out; get " + in + " " + u + "; get " + g + " " + s + "; ret", "0 0 5 [0]");
        due(set + "locp 2; loc 1; store " + u + "; locp 2; getp " + in + " " + u + "; getp " + g + " " + s + "; load 0; ret", "0 0 5 []");
    }

    private static void statics() {
        world();
        c.type(0, true, -1, 1);
        int gT = c.expr(1, 1, 3);
        int gInt = c.expr(1, 1, 0);
        int gO = c.expr(1, 1, 1);
        int f = c.field(1, 0, true);
        int t = c.field(1, 3, true);
        due("gets " + f + " " + gInt + "; out; num 5; sets " + f + " " + gInt + "; gets " + f + " " + gInt + "; out; gets " + f + " " + gO + "; ret", "0 0 0 [0 5]");
        due("getsp " + f + " " + gO + "; dup; num 3; store 0; load 0; out; gets " + f + " " + gO + "; ret", "0 0 3 [3]");
        due("num 4; sets " + t + " " + gInt + "; make 1; sets " + t + " " + gO + "; gets " + t + " " + gO + "; ifnot 0; gets " + t + " " + gInt + "; ret", "0 0 4 []");
        int m = c.method(1, 3, 0, 0);
        Due.write(c, m, "gets " + f + " " + gT + "; num 1; add; dup; sets " + f + " " + gT + "; ret");
        due("call " + m + " " + gO + "; out; call " + m + " " + gInt + "; out; call " + m + " " + gO + "; ret", "0 0 2 [1 1]");
        Due.is("37 a run begins with 0", Due.run(c, 0, 0, 0, 0), "0 0 2 [1 1]");
    }

    private static void boxes() {
        world();
        c.type(1, false, -1, -1);
        int s = c.expr(0, 1, 0);
        int f = c.field(1, 0, false);
        c.local(0, s);
        c.local(0, 1);
        due("num 5; box 0; unboxa 0; ret", "0 0 5 []");
        due("num 5; box 0; setloc 1; loc 1; unbox 0; num 6; store 0; loc 1; unboxa 0; ret", "0 0 6 []");
        due("locp 0; num 3; set " + f + " " + s + "; loc 0; box " + s + "; unbox " + s + "; get " + f + " " + s + "; ret", "0 0 3 []");
        due("locp 0; num 3; set " + f + " " + s + "; loc 0; box " + s + "; setloc 1; locp 0; init " + s + "; loc 1; unboxa " + s + "; get " + f + " " + s + "; ret", "0 0 3 []");
        due("null; unbox 0; pop; num 1; ret", "1 1 0 []");
        due("null; unboxa 0; ret", "1 1 0 []");
        due("num 5; box 0; unboxa " + s + "; pop; num 1; ret", "1 3 0 []");
        due("make 1; unbox 0; pop; num 1; ret", "1 3 0 []");
        due("make 4; dup; box 4; eq; ret", "0 0 1 []");
        due("null; unboxa 4; ifnot 5; num 1; ret; num 2; ret", "0 0 2 []");
        due("make 1; unboxa 4; pop; num 2; ret", "1 3 0 []");
    }

    private static void casts() {
        world();
        c.type(0, false, -1, 4);
        int a = c.expr(0, 1, 0);
        c.type(2, false, -1, -1);
        int i = c.expr(0, 2, 0);
        c.type(1, false, -1, -1);
        int s = c.expr(0, 3, 0);
        c.implement(1, i);
        c.implement(3, i);
        int rowA = c.expr(2, a, 0);
        int row4 = c.expr(2, 4, 0);
        c.local(0, 1);
        c.local(0, s);
        due("make " + a + "; cast 1; cast " + a + "; cast 4; cast " + i + "; pop; num 1; ret", "0 0 1 []");
        due("make 4; cast " + a + "; pop; num 1; ret", "1 3 0 []");
        due("null; cast " + a + "; ifnot 5; num 1; ret; num 2; ret", "0 0 2 []");
        due("num 5; box 0; cast 1; pop; num 1; ret", "0 0 1 []");
        due("num 5; box 0; cast " + i + "; pop; num 1; ret", "1 3 0 []");
        due("loc 1; box " + s + "; cast " + i + "; pop; num 1; ret", "0 0 1 []");
        String is = "; ifnot 6; num 1; ret; num 2; ret";
        due("make " + a + "; isa 4; nop" + is, "0 0 1 []");
        due("make 4; isa " + a + "; nop" + is, "0 0 2 []");
        due("null; isa 1; nop" + is, "0 0 2 []");
        due("loc 1; box " + s + "; isa " + s + is, "0 0 1 []");
        due("loc 1; box " + s + "; isa " + i + is, "0 0 1 []");
        due("loc 1; box " + s + "; isa 4" + is, "0 0 2 []");
        due("num 1; box 0; isa 0" + is, "0 0 1 []");
        due("num 1; box 0; isa " + s + is, "0 0 2 []");
        due("make " + a + "; isa " + i + "; nop" + is, "0 0 1 []");
        due("make " + a + "; isa 0; nop" + is, "0 0 2 []");
        due("num 0; row " + a + "; isa " + row4 + is, "0 0 1 []");
        due("num 0; row 4; isa " + rowA + is, "0 0 2 []");
        due("num 0; row 0; isa " + rowA + is, "0 0 2 []");
        due("make 2; isa 2; nop" + is, "0 0 1 []");
    }

    private static void rows() {
        world();
        int row = c.expr(2, 0, 0);
        c.local(0, row);
        due("num 3; row 0; setloc 0; loc 0; num 2; num 8; put 0; loc 0; num 2; at 0; out; loc 0; num 0; at 0; out; loc 0; len; ret", "0 0 3 [8 0]");
        due("num 3; row 0; setloc 0; loc 0; num 1; atp 0; num 8; store 0; loc 0; num 1; at 0; ret", "0 0 8 []");
        due("num 0; row 0; len; ret", "0 0 0 []");
        due("num 12; row 0; len; ret", "0 0 12 []");
        due("num 13; row 0; len; ret", "1 8 0 []");
        due("num -1; row 0; len; ret", "1 8 0 []");
        due("num 2; row 0; num 2; at 0; ret", "1 2 0 []");
        due("num 2; row 0; num -1; at 0; ret", "1 2 0 []");
        due("num 2; row 0; num 2; num 1; put 0; num 1; ret", "1 2 0 []");
        due("num 2; row 0; num 2; atp 0; load 0; ret", "1 2 0 []");
        due("null; len; ret", "1 1 0 []");
        due("null; num 5; at 0; ret", "1 1 0 []");
        due("null; num 5; num 1; put 0; num 1; ret", "1 1 0 []");
        due("null; num 5; atp 0; load 0; ret", "1 1 0 []");
        c.limit(20);
        due("num 13; row 0; len; ret", "1 8 0 []");
        due("num 12; row 0; setloc 0; num 12; row 0; len; ret", "1 5 0 []");
    }

    private static void rowsOfReferences() {
        world();
        c.type(0, false, -1, 4);
        int a = c.expr(0, 1, 0);
        int row4 = c.expr(2, 4, 0);
        c.local(0, row4);
        String make = "num 2; row " + a + "; setloc 0; ";
        due(make + "loc 0; num 0; make " + a + "; put 4; loc 0; num 0; at 4; ifnot 0; num 1; ret", "0 0 1 []");
        due(make + "loc 0; num 0; make 4; put 4; num 1; ret", "1 7 0 []");
        due(make + "loc 0; num 0; null; put 4; num 1; ret", "0 0 1 []");
        due(make + "loc 0; num 5; make 4; put 4; num 1; ret", "1 2 0 []");
        due(make + "loc 0; num 0; atp 4; pop; num 1; ret", "1 7 0 []");
        due(make + "loc 0; num 5; atp 4; pop; num 1; ret", "1 2 0 []");
        due("num 2; row 4; setloc 0; loc 0; num 0; atp 4; make " + a + "; store 4; loc 0; num 0; at 4; isa " + a + "; ifnot 0; num 1; ret", "0 0 1 []");
    }

    /** A PLACE that a METHOD is given. */
    private static void places() {
        world();
        int place = c.expr(3, 0, 0);
        c.local(0, 0);
        int m = c.method(0, 1, 0, -1);
        c.param(m, place);
        Due.write(c, m, "arg 0; arg 0; load 0; num 2; mul; store 0; ret");
        int n = c.method(0, 2, 0, place);
        c.param(n, place);
        c.param(n, place);
        c.param(n, 0);
        Due.write(c, n, "arg 2; ifnot 4; arg 0; ret; arg 1; ret");
        due("locp 0; num 4; store 0; locp 0; call " + m + " 4; loc 0; ret", "0 0 8 []");
        due("argp 0; call " + m + " 4; arg 0; ret", "0 0 14 []");
        due("num 5; box 0; dup; unbox 0; call " + m + " 4; unboxa 0; ret", "0 0 10 []");
        due("argp 0; argp 1; num 0; call " + n + " 4; num 50; store 0; arg 0; out; arg 1; ret", "0 0 50 [7]");
        due("argp 0; argp 1; num 1; call " + n + " 4; num 50; store 0; arg 0; out; arg 1; ret", "0 0 3 [50]");
    }

    private static void calls() {
        world();
        int own = c.method(0, 1, 1, 0);
        c.param(own, 0);
        Due.write(c, own, "arg 1; num 100; add; ret");
        int none = c.method(0, 2, 0, -1);
        Due.write(c, none, "num 5; out; ret");
        due("make 4; num 5; call " + own + " 4; ret", "0 0 105 []");
        due("make 4; num 5; callv " + own + " 4; ret", "0 0 105 []");
        due("null; num 5; call " + own + " 4; ret", "1 1 0 []");
        due("null; num 5; callv " + own + " 4; ret", "1 1 0 []");
        due("num 3; call " + none + " 4; ret", "0 0 3 [5]");
        int deep = c.method(0, 3, 0, 0);
        c.param(deep, 0);
        Due.write(c, deep, "arg 0; ifnot 9; arg 0; out; arg 0; num 1; sub; call " + deep + " 4; ret; num 77; ret");
        due("num 6; call " + deep + " 4; ret", "0 0 77 [6 5 4 3 2 1]");
        due("num 7; call " + deep + " 4; ret", "1 6 0 [7 6 5 4 3 2 1]");
        due("null; num 5; call " + own + " 4; ret", "1 1 0 []");
        int last = c.method(0, 4, 0, 0);
        c.param(last, 0);
        Due.write(c, last, "arg 0; ifnot 7; arg 0; num 1; sub; call " + last + " 4; ret; null; num 5; call " + own + " 4; ret");
        due("num 6; call " + last + " 4; ret", "1 1 0 []");
    }

    private static void callsOfAnswers() {
        world();
        c.type(2, false, -1, -1);
        int i = c.expr(0, 1, 0);
        int im = c.method(1, 5, 2, 0);
        c.param(im, 0);
        c.type(0, false, -1, 4);
        int a = c.expr(0, 2, 0);
        c.implement(2, i);
        c.type(0, false, -1, a);
        int b = c.expr(0, 3, 0);
        c.type(1, false, -1, -1);
        int s = c.expr(0, 4, 0);
        c.implement(4, i);
        int f = c.field(4, 0, false);
        int am = c.method(2, 5, 2, 0);
        c.param(am, 0);
        Due.write(c, am, "arg 1; num 10; add; ret");
        int bm = c.method(3, 5, 2, 0);
        c.param(bm, 0);
        Due.write(c, bm, "arg 0; arg 1; call " + am + " " + a + "; num 100; add; ret");
        int sm = c.method(4, 5, 2, 0);
        c.param(sm, 0);
        Due.write(c, sm, "arg 0; arg 0; get " + f + " " + s + "; arg 1; add; set " + f + " " + s + "; arg 0; get " + f + " " + s + "; ret");
        c.local(0, s);
        c.local(0, i);
        due("make " + a + "; num 1; callv " + im + " " + i + "; ret", "0 0 11 []");
        due("make " + b + "; num 1; callv " + im + " " + i + "; ret", "0 0 111 []");
        due("make " + b + "; num 1; callv " + am + " " + a + "; ret", "0 0 111 []");
        due("make " + b + "; num 1; call " + am + " " + a + "; ret", "0 0 11 []");
        due("null; num 1; callv " + im + " " + i + "; ret", "1 1 0 []");
        due("loc 0; box " + s + "; cast " + i + "; setloc 1; loc 1; num 4; callv " + im + " " + i + "; out; loc 1; num 5; callv " + im + " " + i + "; out; locp 0; get "
            + f + " " + s + "; ret", "0 0 0 [4 9]");
        due("locp 0; num 4; call " + sm + " " + s + "; out; locp 0; num 4; callon " + im + " " + i + "; out; loc 0; get " + f + " " + s + "; ret", "0 0 8 [4 8]");
    }

    private static void callsOnPlaces() {
        world();
        c.type(2, false, -1, -1);
        int i = c.expr(0, 1, 0);
        int im = c.method(1, 5, 2, 0);
        c.type(0, false, -1, 4);
        int a = c.expr(0, 2, 0);
        c.implement(2, i);
        int f = c.field(2, a, false);
        int am = c.method(2, 5, 2, 0);
        Due.write(c, am, "num 12; ret");
        c.local(0, a);
        c.local(0, i);
        due("make " + a + "; setloc 0; locp 0; callon " + im + " " + i + "; ret", "0 0 12 []");
        due("locp 0; callon " + im + " " + i + "; ret", "1 1 0 []");
        due("make " + a + "; setloc 1; locp 1; callon " + im + " " + i + "; ret", "0 0 12 []");
        due("make " + a + "; dup; dup; setloc 0; set " + f + " " + a + "; loc 0; getp " + f + " " + a + "; callon " + im + " " + i + "; ret", "0 0 12 []");
        due("num 1; row " + a + "; num 0; atp " + a + "; callon " + im + " " + i + "; ret", "1 1 0 []");
    }

    private static void callsOfT() {
        Cellruntime d = new Cellruntime();
        d.sample(7);
        Due.is("37 a STRUCT stays where it is", Due.run(d, 3, 10, 0, 0), "0 0 10 [2 11]");
        int i = 4;
        d.type(0, false, -1, 1);
        int a = d.expr(0, 4, 0);
        d.implement(4, i);
        int f = d.field(4, 0, false);
        int am = d.method(4, 1, 2, -1);
        Due.write(d, am, "arg 0; arg 0; get " + f + " " + a + "; num 3; add; set " + f + " " + a + "; ret");
        int gA = d.expr(1, 2, a);
        int e = d.method(3, 1, 0, 0);
        d.local(e, gA);
        Due.write(d, e, "make " + gA + "; setloc 0; loc 0; make " + a + "; set 1 " + gA + "; loc 0; call 2 " + gA + "; loc 0; call 2 " + gA + "; loc 0; get 1 " + gA
            + "; get " + f + " " + a + "; ret");
        Due.is("37 T that is a CLASS", Due.run(d, e, 0, 0, 0), "0 0 6 []");
        d.change(e, 3, 2, 0, 0);
        Due.is("37 T that is NULL", Due.run(d, e, 0, 0, 0), "1 1 0 []");
    }

    private static void binds() {
        world();
        c.type(3, false, -1, -1);
        int d = c.expr(0, 1, 0);
        c.method(1, 0, 2, 0);
        c.param(1, 0);
        c.type(0, false, -1, 4);
        int a = c.expr(0, 2, 0);
        int f = c.field(0, 0, false);
        int s = c.method(0, 1, 0, 0);
        c.param(s, 0);
        Due.write(c, s, "arg 0; num 2; mul; ret");
        int own = c.method(0, 2, 1, 0);
        c.param(own, 0);
        Due.write(c, own, "arg 0; get " + f + " 4; arg 1; add; ret");
        int v0 = c.method(0, 3, 2, 0);
        c.param(v0, 0);
        Due.write(c, v0, "arg 1; ret");
        int v1 = c.method(2, 3, 2, 0);
        c.param(v1, 0);
        Due.write(c, v1, "arg 1; num 50; add; ret");
        c.local(0, d);
        c.local(0, 4);
        due("bind " + s + " " + d + "; num 8; invoke " + d + "; ret", "0 0 16 []");
        due("make 4; setloc 1; loc 1; num 30; set " + f + " 4; loc 1; bind " + own + " " + d + "; num 8; invoke " + d + "; ret", "0 0 38 []");
        due("make " + a + "; bind " + v0 + " " + d + "; num 8; invoke " + d + "; ret", "0 0 58 []");
        due("make 4; bind " + v0 + " " + d + "; num 8; invoke " + d + "; ret", "0 0 8 []");
        due("loc 1; bind " + own + " " + d + "; pop; num 1; ret", "1 1 0 []");
        due("null; num 8; invoke " + d + "; ret", "1 1 0 []");
        c.type(0, true, -1, 1);
        int gT = c.expr(1, 3, 3);
        int gInt = c.expr(1, 3, 0);
        int n = c.field(3, 0, true);
        c.type(0, false, -1, gInt);
        int h = c.expr(0, 4, 0);
        int count = c.method(3, 4, 1, 0);
        c.param(count, 0);
        Due.write(c, count, "gets " + n + " " + gT + "; arg 1; add; dup; sets " + n + " " + gT + "; ret");
        due("make " + h + "; bind " + count + " " + d + "; dup; num 8; invoke " + d + "; out; num 2; invoke " + d + "; out; gets " + n + " " + gInt + "; ret", "0 0 10 [8 10]");
        c.walk(0, 0, 0, 0);
        c.step(5);
        Due.is("47 HOLDER of what is bound", c.holder(1) + " " + c.value(1, 0, 0), "t3<int> t4#1");
        c.limit(20);
        int o = c.expr(2, 0, 0);
        c.local(0, o);
        due("num 12; row 0; setloc 2; bind " + s + " " + d + "; num 3; invoke " + d + "; ret", "0 0 6 []");
        due("num 12; row 0; setloc 2; make 4; bind " + own + " " + d + "; pop; num 1; ret", "1 5 0 []");
    }

    private static void holders() {
        world();
        c.type(0, true, -1, 1);
        int gT = c.expr(1, 1, 3);
        int gRow = c.expr(1, 1, c.expr(2, 3, 0));
        int gInt = c.expr(1, 1, 0);
        int f = c.field(1, 0, true);
        c.type(0, true, -1, gRow);
        int hT = c.expr(1, 2, 3);
        int hInt = c.expr(1, 2, 0);
        int v = c.method(1, 1, 2, 0);
        Due.write(c, v, "gets " + f + " " + gT + "; num 1; add; dup; sets " + f + " " + gT + "; ret");
        due("make " + hInt + "; call " + v + " " + c.expr(1, 1, c.expr(2, 0, 0)) + "; out; make " + hInt + "; callv " + v + " " + c.expr(1, 1, c.expr(2, 0, 0))
            + "; out; gets " + f + " " + gInt + "; ret", "0 0 0 [1 2]");
        int w = c.method(2, 1, 2, 0);
        Due.write(c, w, "arg 0; call " + v + " " + gRow + "; num 100; add; ret");
        Due.is("37 the ANSWER above", Due.run(c, 0, 0, 0, 0), "0 0 0 [1 102]");
        Due.is("20 told", c.exprText(hT), "t2<T>");
    }

    private static void bodies() {
        world();
        c.type(0, true, -1, 1);
        c.expr(1, 1, 3);
        int m = c.method(1, 1, 0, 0);
        Due.write(c, m, "num 1; ret");
        StringBuilder code = new StringBuilder();
        int row = c.expr(2, 0, 0);
        c.type(1, false, -1, -1);
        int s = c.expr(0, 2, 0);
        for (int x : new int[] {0, 1, 2, 4, row, s}) code.append("call " + m + " " + c.expr(1, 1, x) + "; out; ");
        due(code + "num 1; ret", "0 0 1 [1 1 1 1 1 1]");
        c.run(0, 1, 0, 0, 0);
        Due.is("39 BODIES that are SHARED", c.ofRun(4), 4);
        c.share(false);
        c.run(0, 1, 0, 0, 0);
        Due.is("39 BODIES that are not", c.ofRun(4), 7);
        c.run(0, 0, 0, 0, 0);
        Due.is("39 by WAY 0", c.ofRun(4), 0);
    }

    private static void cut() {
        world();
        due("nop; go 0", "2 0 0 []");
        Due.is("39 STEPS", c.ofRun(2), 600);
        c.local(0, 0);
        due("arg 0; out; num 9; setloc 0; loc 0; ifnot 12; loc 0; num 1; sub; setloc 0; go 4; nop; num 5; ret", "0 0 5 [7]");
        Due.is("38 what was told ahead", c.out(), "7");
        // 3 STEPS ahead of the loop, 7 for each round, 4 behind.
        for (int n = 84; n <= 85; n++) {
            due("num " + n + "; setloc 0; nop; loc 0; ifnot 10; loc 0; num 1; sub; setloc 0; go 3; num 5; ret", n == 84 ? "0 0 5 []" : "2 0 0 []");
            Due.is("39 STEPS of " + n, c.ofRun(2), n == 84 ? 595 : 600);
        }
        due("num 84; setloc 0; nop; loc 0; ifnot 10; loc 0; num 1; sub; setloc 0; go 3; nop; nop; nop; nop; nop; num 5; ret", "0 0 5 []");
        Due.is("39 an END behind the 600th", c.ofRun(2), 600);
        due("num 84; setloc 0; nop; loc 0; ifnot 10; loc 0; num 1; sub; setloc 0; go 3; nop; nop; nop; nop; nop; nop; num 5; ret", "2 0 0 []");
        Due.is("52 CUT", c.house(3) > 0, true);
    }
}
