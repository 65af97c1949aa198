/**
 * Sections 4 to 6 of the document, at their edges: numbers that wrap around, ROWS and their places, 8 FRAMES, 600 STEPS, LIMIT,
 * what is REACHED, T of a STRUCT, BODIES; by both WAYS.
 */
public final class RunEdgesTest {
    private static final int MIN = Integer.MIN_VALUE, MAX = Integer.MAX_VALUE;
    private static Cellruntime c;

    public static void main(String[] args) {
        sums();
        signs();
        truths();
        codes();
        rows();
        frames();
        framesOfNull();
        steps();
        stepsOfFaults();
        cells();
        room();
        roomOfAll();
        roomAtFirst();
        roots();
        leads();
        beginsAnew();
        tOfStructs();
        fieldsOfT();
        copies();
        boxesAsThis();
        answersOfSignatures();
        holders();
        bodies();
        entries();
        results();
        Due.end("RunEdgesTest");
    }

    /** t0, a CLASS of object with the EXPRESSION 4, and m0, STATIC, given three INTS, with RESULT INT. */
    private static void world(int... locals) {
        c = new Cellruntime();
        c.type(0, false, -1, 1);
        c.expr(0, 0, 0);
        c.method(0, 0, 0, 0);
        for (int k = 0; k < 3; k++) c.param(0, 0);
        for (int x : locals) c.local(0, x);
    }

    private static int method(int type, int name, int mode, int result, String code, int... given) {
        int m = c.method(type, name, mode, result);
        for (int x : given) c.param(m, x);
        Due.write(c, m, code);
        return m;
    }

    private static void write(int m, String code) {
        c.cut(m, c.ofMethod(m, 6));
        Due.write(c, m, code);
    }

    private static void due(String code, String want, int... given) {
        write(0, code);
        int[] all = new int[3];
        System.arraycopy(given, 0, all, 0, given.length);
        Due.is("37 " + code + " of " + java.util.Arrays.toString(all), Due.run(c, 0, all[0], all[1], all[2]), want);
    }

    private static void sum(String op, int a, int b, int want) {
        due("arg 0; arg 1; " + op + "; dup; out; ret", "0 0 " + want + " [" + want + "]", a, b);
    }

    private static void sums() {
        world();
        sum("add", MAX, 1, MIN);
        sum("add", MAX, 0, MAX);
        sum("add", MIN, -1, MAX);
        sum("add", MIN, MIN, 0);
        sum("add", MAX, MAX, -2);
        sum("sub", MIN, 1, MAX);
        sum("sub", MAX, -1, MIN);
        sum("sub", 0, MIN, MIN);
        sum("sub", MIN, MAX, 1);
        sum("mul", MIN, -1, MIN);
        sum("mul", MAX, 2, -2);
        sum("mul", 65536, 65536, 0);
        sum("mul", 46341, 46341, 46341 * 46341);
        sum("mul", MAX, MAX, 1);
        sum("div", MIN, -1, MIN);
        sum("div", MIN, 1, MIN);
        sum("div", MAX, MIN, 0);
        sum("div", MIN, MAX, -1);
        sum("rem", MIN, -1, 0);
        sum("rem", MIN, MAX, -1);
        sum("rem", MAX, MIN, MAX);
        for (String op : "div rem".split(" ")) for (int n : new int[] {MIN, -1, 0, 1, MAX}) due("arg 0; arg 1; " + op + "; ret", "1 4 0 []", n, 0);
        due("arg 0; arg 1; div; out; arg 0; arg 1; rem; ret", "0 0 0 [0]", 0, MIN);
    }

    /** "div" goes towards 0, "rem" is what is left by that. */
    private static void signs() {
        world();
        int[][] all = {{7, 2, 3, 1}, {-7, 2, -3, -1}, {7, -2, -3, 1}, {-7, -2, 3, -1}, {6, 3, 2, 0}, {-6, 3, -2, 0}, {1, 2, 0, 1}, {-1, 2, 0, -1}, {1, -2, 0, 1}};
        for (int[] k : all) {
            sum("div", k[0], k[1], k[2]);
            sum("rem", k[0], k[1], k[3]);
        }
        int[][] less = {{MIN, MAX, 1}, {MAX, MIN, 0}, {0, 0, 0}, {-1, 0, 1}, {0, -1, 0}, {MIN, MIN, 0}, {MIN, MIN + 1, 1}, {MAX, MAX, 0}, {MAX - 1, MAX, 1}};
        for (int[] k : less) sum("lt", k[0], k[1], k[2]);
        int[][] same = {{MIN, MIN, 1}, {MIN, MAX, 0}, {0, 0, 1}, {0, -1, 0}, {65536, 0, 0}, {MAX, MAX, 1}};
        for (int[] k : same) sum("eq", k[0], k[1], k[2]);
        due("num 9999; out; num -9999; ret", "0 0 -9999 [9999]");
    }

    private static void truths() {
        world();
        for (int n : new int[] {MIN, -1, 1, 256, 65536, MAX, 0}) {
            due("arg 0; if 4; num 1; ret; num 2; ret", "0 0 " + (n == 0 ? 1 : 2) + " []", n);
            due("arg 0; ifnot 4; num 1; ret; num 2; ret", "0 0 " + (n == 0 ? 2 : 1) + " []", n);
        }
        String[][] all = {{"null", "1"}, {"make 1", "2"}, {"num 0; row 0", "2"}, {"num 0; box 0", "2"}, {"make 2", "2"}};
        for (String[] k : all) {
            int at = k[0].split(";").length + 3;
            due(k[0] + "; if " + at + "; num 1; ret; num 2; ret", "0 0 " + k[1] + " []");
            due(k[0] + "; ifnot " + at + "; num 2; ret; num 1; ret", "0 0 " + k[1] + " []");
        }
    }

    /** A CODE is any INT. */
    private static void codes() {
        world();
        for (int n : new int[] {MIN, -1, 0, 9, MAX}) {
            due("make 2; dup; arg 0; setcode; dup; codeof; out; throw", "1 " + n + " 0 [" + n + "]", n);
            c.walk(0, n, 0, 0);
            Due.is("44 CODE as long as there is no END", c.step(7) + " " + c.ofWalk(2), "7 0");
            Due.is("44 CODE then", c.step(1) + " " + c.ofWalk(2), "1 " + n);
            Due.is("50 as a text", c.thing(1), "{" + n + "}");
        }
    }

    private static void rows() {
        // (Those that are too many are so for LIMIT, too: 8 goes ahead of 5.)
        int[] lengths = {MIN, -1, 0, 1, 11, 12, 13, 117, 118, 200, 9999, MAX / 2, MAX};
        for (int n : lengths) {
            world(1);
            boolean is = n >= 0 && n <= 12;
            due("arg 0; row 0; len; ret", is ? "0 0 " + n + " []" : "1 8 0 []", n);
            due("arg 0; row 1; setloc 0; cells; ret", is ? "0 0 " + (3 + n) + " []" : "1 8 0 []", n);
            if (!is) continue;
            for (int k : new int[] {MIN, -1, 0, n - 1, n, n + 1, MAX}) {
                boolean isIn = k >= 0 && k < n;
                String none = "1 2 0 []";
                due("arg 0; row 0; arg 1; at 0; ret", isIn ? "0 0 0 []" : none, n, k);
                due("arg 0; row 0; arg 1; num 7; put 0; num 1; ret", isIn ? "0 0 1 []" : none, n, k);
                due("arg 0; row 0; dup; arg 1; num 7; put 0; arg 1; at 0; ret", isIn ? "0 0 7 []" : none, n, k);
                due("arg 0; row 0; dup; arg 1; atp 0; num 8; store 0; arg 1; at 0; ret", isIn ? "0 0 8 []" : none, n, k);
                due("arg 0; row 4; arg 1; atp 4; load 4; ifnot 8; num 1; ret; num 2; ret", isIn ? "0 0 2 []" : none, n, k);
                due("null; arg 1; at 0; ret", "1 1 0 []", n, k);
                due("null; arg 1; atp 0; load 0; ret", "1 1 0 []", n, k);
                due("null; arg 1; num 1; put 0; num 1; ret", "1 1 0 []", n, k);
            }
        }
        world();
        int o5 = above();
        int row4 = c.expr(2, 4, 0);
        int row5 = c.expr(2, o5, 0);
        due("num 1; row " + o5 + "; cast " + row4 + "; num 0; make 4; put 4; num 1; ret", "1 7 0 []");
        due("num 1; row " + o5 + "; cast " + row4 + "; num 1; make 4; put 4; num 1; ret", "1 2 0 []");
        due("num 1; row " + o5 + "; cast " + row4 + "; num 0; null; put 4; num 1; ret", "0 0 1 []");
        due("num 1; row " + o5 + "; cast " + row4 + "; num 0; make " + o5 + "; put 4; num 1; ret", "0 0 1 []");
        due("num 1; row " + o5 + "; cast " + row4 + "; num 0; atp 4; pop; num 1; ret", "1 7 0 []");
        due("num 1; row " + o5 + "; cast " + row4 + "; num 1; atp 4; pop; num 1; ret", "1 2 0 []");
        due("num 1; row " + o5 + "; cast " + row5 + "; num 0; atp " + o5 + "; pop; num 1; ret", "0 0 1 []");
        due("null; cast " + row4 + "; num 1; atp 4; pop; num 1; ret", "1 1 0 []");
    }

    /** A CLASS above t0; its EXPRESSION. */
    private static int above() {
        return c.expr(0, c.type(0, false, -1, 4), 0);
    }

    /** With t0 a CLASS that keeps an INTERFACE, and a DELEGATE; "deep" calls itself as often as it is told, then does the code. */
    private static int i;
    private static int d;
    private static int own;
    private static int virtual;
    private static int asked;
    private static int still;
    private static int deep;

    private static void callers() {
        world();
        i = c.expr(0, c.type(2, false, -1, -1), 0);
        asked = c.method(1, 3, 2, 0);
        d = c.expr(0, c.type(3, false, -1, -1), 0);
        c.method(2, 0, 2, 0);
        c.implement(0, i);
        own = method(0, 2, 1, 0, "num 21; ret");
        virtual = method(0, 3, 2, 0, "num 22; ret");
        still = method(0, 4, 0, 0, "num 23; ret");
        deep = method(0, 5, 0, 0, "", 0);
        c.local(deep, 4);
        write(0, "arg 0; call " + deep + " 4; ret");
    }

    /** With 7 FRAMES there, and with 8. */
    private static void at(String code, String seven, String eight) {
        write(deep, "arg 0; ifnot 7; arg 0; num 1; sub; call " + deep + " 4; ret; " + code + "; ret");
        Due.is("37 with 7 FRAMES: " + code, Due.run(c, 0, 5, 0, 0), seven);
        Due.is("37 with 8 FRAMES: " + code, Due.run(c, 0, 6, 0, 0), eight);
    }

    private static void frames() {
        callers();
        at("num 9", "0 0 9 []", "0 0 9 []");
        at("call " + still + " 4", "0 0 23 []", "1 6 0 []");
        at("make 4; call " + own + " 4", "0 0 21 []", "1 6 0 []");
        at("make 4; callv " + own + " 4", "0 0 21 []", "1 6 0 []");
        at("make 4; callv " + virtual + " 4", "0 0 22 []", "1 6 0 []");
        at("make 4; callv " + asked + " " + i, "0 0 22 []", "1 6 0 []");
        at("make 4; setloc 0; locp 0; callon " + asked + " " + i, "0 0 22 []", "1 6 0 []");
        at("bind " + still + " " + d + "; invoke " + d, "0 0 23 []", "1 6 0 []");
        at("make 4; bind " + own + " " + d + "; invoke " + d, "0 0 21 []", "1 6 0 []");
        Due.is("37 a ninth", Due.run(c, 0, 7, 0, 0), "1 6 0 []");
        // A walk sees 8 of them.
        c.walk(0, 6, 0, 0);
        while (c.ofWalk(5) < 8) c.step(1);
        Due.is("46 the one on top", c.ofFrame(7, 0) + " " + c.value(7, 0, 0), deep + " 0");
        Due.fails("46 no ninth", Due.INDEX, () -> c.ofFrame(8, 0));
        // What goes makes room for others.
        write(deep, "arg 0; ifnot 7; arg 0; num 1; sub; call " + deep + " 4; ret; num 1; ret");
        write(0, "num 6; call " + deep + " 4; num 6; call " + deep + " 4; add; ret");
        Due.is("37 eight, and eight again", Due.run(c, 0, 0, 0, 0), "0 0 2 []");
    }

    /** 1 goes ahead of 6. */
    private static void framesOfNull() {
        callers();
        String[] all = {"null; call " + own + " 4", "null; callv " + own + " 4", "null; callv " + virtual + " 4", "null; callv " + asked + " " + i,
            "locp 0; callon " + asked + " " + i, "null; invoke " + d};
        for (String code : all) at(code, "1 1 0 []", "1 1 0 []");
    }

    /** A loop of 7 STEPS a round, 593 with what is around it; then the code. */
    private static String after(int nops, String code) {
        return "num 84; setloc 0; nop; loc 0; ifnot 10; loc 0; num 1; sub; setloc 0; go 3; " + "nop; ".repeat(nops) + code;
    }

    private static void steps() {
        world(0);
        due(after(5, "num 5; ret"), "0 0 5 []");
        Due.is("39 just 600", c.ofRun(2), 600);
        due(after(4, "num 5; ret"), "0 0 5 []");
        Due.is("39 599", c.ofRun(2), 599);
        due(after(6, "num 5; ret"), "2 0 0 []");
        Due.is("39 CUT", c.ofRun(2), 600);
        due(after(5, "num 8; out; num 5; ret"), "2 0 0 [8]");
        due(after(6, "num 8; out; num 5; ret"), "2 0 0 []");
        c.walk(0, 0, 0, 0);
        Due.is("42 up to the 599th", c.step(599) + " " + c.ofWalk(0) + " " + c.ofWalk(1), "599 1 -1");
        Due.is("42 the 600th", c.step(600) + " " + c.ofWalk(0) + " " + c.ofWalk(1) + " " + c.ofWalk(5), "1 0 2 1");
        Due.is("42 none behind it", c.step(1), 0);
        Due.is("48 the FRAME stays", c.value(0, 2, 0) + " " + c.ofFrame(0, 1), "8 17");
    }

    private static void stepsOfFaults() {
        world(0);
        due(after(5, "null; throw"), "1 1 0 []");
        Due.is("39 UNCAUGHT with just 600", c.ofRun(2), 600);
        due(after(6, "null; throw"), "2 0 0 []");
        Due.is("39 CUT ahead of it", c.ofRun(2), 600);
        // With a FINALLY: its BLOCK has STEPS of its own.
        write(0, after(2, "null; throw; nop; nop; endfinally"));
        c.handler(0, 2, 12, 14, 14, 17);
        Due.is("31 RIGHT but for the stack", c.error(0), 0);
        Due.is("37 UNCAUGHT behind the BLOCK", Due.run(c, 0, 0, 0, 0), "1 1 0 []");
        Due.is("39 with just 600", c.ofRun(2), 600);
        c.unhandle(0);
        write(0, after(3, "null; throw; nop; nop; endfinally"));
        c.handler(0, 2, 13, 15, 15, 18);
        Due.is("37 CUT in the BLOCK", Due.run(c, 0, 0, 0, 0), "2 0 0 []");
        c.walk(0, 0, 0, 0);
        c.step(600);
        Due.is("49 what it was done for is REACHED behind it", c.ofWalk(1) + " " + c.reached(0) + " " + c.thing(1) + " " + c.ofFrame(0, 1), "2 1 {1} 17");
    }

    /** t1 STRUCT of nothing (5), t2 of two INTS (6), t3 of a t2 and an object (7); t4 an object with all of them, t5 above FAULT. */
    private static void things() {
        world(1);
        for (int t = 1; t <= 3; t++) c.expr(0, c.type(1, false, -1, -1), 0);
        c.field(2, 0, false);
        c.field(2, 0, false);
        c.field(3, 6, false);
        c.field(3, 1, false);
        c.field(3, 0, true);
        c.type(0, false, -1, 4);
        c.expr(0, 4, 0);
        for (int x : new int[] {5, 6, 7}) c.field(4, x, false);
        c.type(0, false, -1, 2);
        c.expr(0, 5, 0);
        c.field(5, 6, false);
        c.type(0, false, -1, 9);
        c.expr(0, 6, 0);
        c.field(6, 0, false);
        c.type(3, false, -1, -1);
        c.expr(0, 7, 0);
        c.method(7, 0, 2, -1);
        method(0, 1, 0, -1, "ret");
        c.type(0, true, -1, 4);
        for (int x : new int[] {0, 1, 5, 6, 7}) c.expr(1, 8, x);
        c.field(8, 3, false);
        c.field(8, 0, false);
        c.field(8, 3, true);
        for (int x : new int[] {5, 6, 7}) c.local(0, x);
    }

    private static final String[] MADE = {"make 4", "make 1", "make 2", "make 8", "make 9", "make 10", "num 1; box 0", "loc 1; box 5", "loc 2; box 6", "loc 3; box 7",
        "num 0; row 0", "num 12; row 0", "num 2; row 5", "num 3; row 6", "num 2; row 7", "num 4; row 4", "bind 2 11", "make 12", "make 13", "make 14", "make 15", "make 16"};
    private static final int[] CELLS = {2, 2, 3, 8, 5, 6, 3, 3, 4, 5, 3, 15, 5, 9, 9, 7, 5, 4, 4, 4, 5, 6};

    private static void cells() {
        things();
        int[] values = {1, 1, 1, -1, 1, 1, 2, 3, 1, 1, 1, 1, 1, 1, 1, 1, 1};
        for (int x = 0; x < values.length; x++) Due.is("21 cellsOf " + c.exprText(x), c.cellsOf(x), values[x]);
        for (int k = 0; k < MADE.length; k++) due(MADE[k] + "; setloc 0; cells; ret", "0 0 " + CELLS[k] + " []");
    }

    /** Beside a ROW of so many that it just fits, and with one CELL less. */
    private static void room() {
        things();
        for (int k = 0; k < MADE.length; k++) {
            for (int length = 0; length <= 12; length++) {
                int all = 3 + length + CELLS[k];
                if (all < 20 || all > 200) continue;
                String code = "num " + length + "; row 0; setloc 0; " + MADE[k] + "; pop; num 1; ret";
                c.limit(all);
                due(code, "0 0 1 []");
                if (all == 20) continue;
                c.limit(all - 1);
                due(code, "1 5 0 []");
            }
        }
        // Alone: as much as LIMIT.
        c.limit(20);
        due("num 5; row 7; pop; num 1; ret", "0 0 1 []");
        due("num 6; row 7; pop; num 1; ret", "1 5 0 []");
        c.limit(21);
        due("num 6; row 7; pop; num 1; ret", "0 0 1 []");
    }

    /** LIMIT 20, 21, 199 and 200, filled to the last CELL. */
    private static void roomOfAll() {
        for (int limit : new int[] {20, 21, 199, 200}) {
            world(1);
            int rows = c.expr(2, 1, 0);
            c.local(0, rows);
            c.local(0, 0);
            c.limit(limit);
            // A ROW of 12 places; in it as many ROWS as arg 1 tells, each of as many INTS as arg 0 tells; then an empty ROW.
            write(0, "num 12; row 1; setloc 1; loc 1; loc 2; arg 0; row 0; put 1; loc 2; num 1; add; dup; setloc 2; arg 1; lt; if 3; num 0; row 0; pop; cells; ret");
            int rest = limit - 15 - 3;
            for (int each = 0; each <= 12; each++) {
                int many = rest / (3 + each);
                if (many < 1 || many > 12) continue;
                Due.is("37 LIMIT " + limit + ": " + many + " of " + each, Due.run(c, 0, each, many, 0), "0 0 " + (15 + many * (3 + each)) + " []");
                if (many < 12) Due.is("37 LIMIT " + limit + ": one more of " + each, Due.run(c, 0, each, many + 1, 0), "1 5 0 []");
            }
        }
    }

    /** LIMIT at first: 120, filled by a ROW of 12 and seven ROWS of 12 in it. */
    private static void roomAtFirst() {
        world(1);
        int rows = c.expr(2, 1, 0);
        c.local(0, rows);
        c.local(0, 0);
        String code = "num 12; row 1; setloc 1; loc 1; loc 2; num 12; row 0; put 1; loc 2; num 1; add; dup; setloc 2; num 7; lt; if 3; %s; cells; ret";
        due(String.format(code, "nop"), "0 0 120 []");
        for (String made : "make 1,make 4,num 0; row 0,num 1; box 0".split(",")) due(String.format(code, made + "; pop"), "1 5 0 []");
        due(String.format(code, "null; setloc 1; make 4; pop"), "0 0 0 []");
        // What is NULL or not let is told ahead of that there is no room.
        int call = c.expr(0, c.type(3, false, -1, -1), 0);
        c.method(1, 0, 2, -1);
        int own = method(0, 1, 1, -1, "ret");
        int target = c.local(0, 4) - 1;
        due(String.format(code, "loc " + target + "; bind " + own + " " + call + "; pop"), "1 1 0 []");
        due(String.format(code, "num 13; row 0; pop"), "1 8 0 []");
        due(String.format(code, "num -1; row 0; pop"), "1 8 0 []");
        due(String.format(code, "num 1; num 0; div; pop"), "1 4 0 []");
        c.limit(121);
        due(String.format(code, "make 4; pop"), "1 5 0 []");
        c.limit(122);
        due(String.format(code, "make 4; pop"), "0 0 120 []");
        c.share(false);
        c.knock();
        int runs = c.house(0);
        c.clear();
        Due.is("15 LIMIT, SHARED, knocks, runs stay", c.house(4) + " " + c.house(5) + " " + c.house(6) + " " + (c.house(0) - runs), "122 0 1 0");
        c.sample(0);
        Due.is("16 LIMIT, SHARED, knocks, runs stay", c.house(4) + " " + c.house(5) + " " + c.house(6) + " " + (c.house(0) - runs), "122 0 1 0");
        Due.is("16 the last run stays", c.ofRun(0) + " " + c.ofRun(3), "0 120");
    }

    /** What is REACHED, and no more as soon as it is gone from there. */
    private static void roots() {
        world(1, 4);
        int f = c.field(0, 1, true);
        due("make 1; cells; out; pop; cells; ret", "0 0 0 [2]");
        due("make 1; setloc 0; cells; out; null; setloc 0; cells; ret", "0 0 0 [2]");
        due("make 1; sets " + f + " 4; cells; out; null; sets " + f + " 4; cells; ret", "0 0 0 [2]");
        due("make 1; pin; cells; out; unpin; cells; ret", "0 0 0 [2]");
        due("make 1; dup; pin; setloc 0; unpin; cells; out; null; setloc 0; cells; ret", "0 0 0 [2]");
        int given = method(0, 1, 0, -1, "cells; out; null; setarg 0; cells; out; ret", 1);
        due("make 1; call " + given + " 4; cells; ret", "0 0 0 [2 0]");
        due("make 1; dup; call " + given + " 4; pop; cells; ret", "0 0 0 [2 2]");
        int below = method(0, 1, 0, -1, "make 1; setloc 0; cells; out; ret");
        c.local(below, 1);
        due("make 1; call " + below + " 4; pop; cells; ret", "0 0 0 [4]");
        int gives = method(0, 1, 0, 1, "make 1; setloc 0; loc 0; ret");
        c.local(gives, 1);
        due("call " + gives + " 4; cells; out; pop; cells; ret", "0 0 0 [2]");
        int self = method(0, 1, 1, -1, "cells; out; ret");
        due("make 4; call " + self + " 4; cells; ret", "0 0 0 [2]");
        // PINS: twice the same is one THING; NULL is none; behind four none more.
        due("make 1; dup; pin; pin; cells; out; unpin; cells; out; unpin; cells; ret", "0 0 0 [2 2]");
        due("null; pin; make 1; pin; unpin; cells; ret", "0 0 0 []");
        due("make 1; pin; make 1; pin; make 1; pin; make 1; pin; make 1; pin; cells; out; unpin; unpin; unpin; unpin; unpin; cells; ret", "0 0 0 [8]");
        due("unpin; make 1; pin; cells; ret", "0 0 2 []");
        // The last PIN goes first.
        due("make 1; pin; make 2; pin; unpin; cells; out; unpin; cells; ret", "0 0 0 [2]");
    }

    /** From a THING to others: each kind of way, and back to itself. */
    private static void leads() {
        things();
        int to = c.field(0, 1, false);
        // Into the object: FIELDS, those of a BASE, in a STRUCT, T.
        due("make 4; dup; make 1; set " + to + " 4; setloc 0; cells; ret", "0 0 5 []");
        due("make 8; dup; make 1; set " + to + " 4; setloc 0; cells; ret", "0 0 11 []");
        due("make 4; dup; dup; set " + to + " 4; setloc 0; cells; out; null; setloc 0; cells; ret", "0 0 0 [3]");
        due("make 13; dup; make 1; set 10 13; setloc 0; cells; ret", "0 0 7 []");
        due("locp 3; make 1; set 3 7; loc 3; box 7; setloc 0; locp 3; init 7; cells; ret", "0 0 7 []");
        due("locp 3; make 1; set 3 7; cells; out; locp 3; init 7; cells; ret", "0 0 0 [2]");
        due("locp 3; make 1; set 3 7; make 8; dup; loc 3; set 7 8; setloc 0; locp 3; init 7; cells; ret", "0 0 11 []");
        due("locp 3; make 1; set 3 7; make 16; dup; loc 3; set 10 16; setloc 0; locp 3; init 7; cells; ret", "0 0 9 []");
        due("locp 3; make 1; set 3 7; loc 3; sets 12 16; locp 3; init 7; cells; ret", "0 0 2 []");
        due("num 2; row 1; dup; num 1; make 1; put 1; setloc 0; cells; ret", "0 0 7 []");
        due("locp 3; make 1; set 3 7; num 2; row 7; dup; num 1; loc 3; put 7; setloc 0; locp 3; init 7; cells; ret", "0 0 11 []");
        due("num 5; box 0; setloc 0; cells; ret", "0 0 3 []");
        int own = method(0, 3, 1, -1, "ret");
        due("make 4; bind " + own + " 11; setloc 0; cells; ret", "0 0 8 []");
        // By a PLACE into a THING.
        due("make 4; getp " + to + " 4; cells; out; pop; cells; ret", "0 0 0 [3]");
        due("num 3; box 0; unbox 0; cells; out; pop; cells; ret", "0 0 0 [3]");
        due("num 3; row 0; num 2; atp 0; cells; out; pop; cells; ret", "0 0 0 [6]");
        due("num 2; row 1; dup; num 0; make 1; put 1; num 1; atp 1; cells; out; pop; cells; ret", "0 0 0 [7]");
        due("locp 3; cells; out; pop; cells; ret", "0 0 0 [0]");
        int given = method(0, 3, 0, -1, "cells; out; ret", c.expr(3, 0, 0));
        due("num 3; row 0; num 2; atp 0; call " + given + " 4; cells; ret", "0 0 0 [6]");
    }

    /** A run begins without THINGS and PINS, with all STATICS 0 or NULL. */
    private static void beginsAnew() {
        world(1);
        int f = c.field(0, 1, true);
        int n = c.field(0, 0, true);
        String code = "gets " + n + " 4; out; cells; out; num 5; sets " + n + " 4; make 1; dup; sets " + f + " 4; pin; make 1; pin; make 1; setloc 0; num 1; out; cells; ret";
        for (int k = 0; k < 3; k++) due(code, "0 0 6 [0 0 1]");
        for (int k = 0; k < 2; k++) {
            c.walk(0, 0, 0, 0);
            Due.is("44 no THINGS, no PINS", c.ofWalk(6) + " " + c.ofWalk(7) + " " + c.ofWalk(8) + " " + c.reached(0), "0 0 0 -1");
            c.step(600);
            Due.is("44 behind the END", c.ofWalk(6) + " " + c.ofWalk(7) + " " + c.ofWalk(8), "2 4 2");
            Due.is("49 numbered from 1 on", c.reached(0) + " " + c.reached(1) + " " + c.reached(2), "1 2 -1");
        }
        due("unpin; cells; ret", "0 0 0 []");
    }

    /** All that can be done with T, where T is a STRUCT of more CELLS than one, an INT, a REFERENCE. */
    private static void tOfStructs() {
        world();
        int s = c.expr(0, c.type(1, false, -1, -1), 0);
        for (int k = 0; k < 3; k++) c.field(1, 0, false);
        c.type(0, true, -1, 4);
        int gT = c.expr(1, 2, 3);
        int rowT = c.expr(2, 3, 0);
        int[] of = {0, 1, s};
        int[] g = new int[3];
        for (int k = 0; k < 3; k++) g[k] = c.expr(1, 2, of[k]);
        int f = c.field(2, 3, false);
        int n = c.field(2, 0, false);
        int still = c.field(2, 3, true);
        int count = c.field(2, 0, true);
        int same = method(2, 1, 0, 3, "arg 0; ret", 3);
        int all = method(2, 2, 1, 3, "", 3);
        c.local(all, 3);
        c.local(all, rowT);
        write(all, "arg 0; num 7; set " + n + " " + gT + "; arg 0; arg 1; call " + same + " " + gT + "; set " + f + " " + gT
            + "; arg 0; getp " + f + " " + gT + "; load 3; sets " + still + " " + gT + "; getsp " + still + " " + gT + "; load 3; box 3; unboxa 3; setloc 0; "
            + "num 3; row 3; setloc 1; loc 1; num 1; loc 0; put 3; loc 1; num 2; atp 3; loc 1; num 1; at 3; store 3; "
            + "locp 0; init 3; locp 0; loc 1; num 2; at 3; store 3; loc 0; ret");
        Due.is("31 RIGHT", c.error(all), 0);
        for (int k = 0; k < 3; k++) c.local(0, g[k]);
        c.local(0, s);
        for (int shared = 0; shared <= 1; shared++) {
            c.share(shared == 1);
            due("num 6; sets " + count + " " + g[0] + "; make " + g[0] + "; setloc 0; loc 0; arg 0; call " + all + " " + g[0] + "; out; loc 0; get " + f + " " + g[0] + "; out; loc 0; get " + n + " " + g[0]
                + "; out; gets " + still + " " + g[0] + "; out; gets " + count + " " + g[0] + "; ret", "0 0 6 [-3 -3 7 -3]", -3);
            due("make " + g[1] + "; setloc 1; loc 1; arg 0; box 0; call " + all + " " + g[1] + "; unboxa 0; out; loc 1; get " + f + " " + g[1] + "; unboxa 0; out; loc 1; get "
                + n + " " + g[1] + "; out; gets " + still + " " + g[1] + "; unboxa 0; ret", "0 0 -3 [-3 -3 7]", -3);
            due("locp 3; num 1; set 0 " + s + "; locp 3; num 2; set 1 " + s + "; locp 3; arg 0; set 2 " + s + "; make " + g[2] + "; setloc 2; loc 2; loc 3; call " + all + " " + g[2]
                + "; setloc 3; loc 3; get 0 " + s + "; out; loc 3; get 1 " + s + "; out; loc 3; get 2 " + s + "; out; loc 2; get " + n + " " + g[2] + "; out; gets " + still
                + " " + g[2] + "; get 2 " + s + "; ret", "0 0 -3 [1 2 -3 7]", -3);
        }
        c.walk(0, 9, 0, 0);
        c.step(14);
        while (c.ofWalk(5) > 1) c.step(1);
        Due.is("50 an object with T", c.thing(1), "{(1,2,9),7}");
        Due.is("44 its CELLS, the BOX and the ROW are gone", c.ofWalk(7), 2 + 3 + 1);
    }

    /** T ahead of other FIELDS, in BASES, with BASES FOR other ARGUMENTS. */
    private static void fieldsOfT() {
        world();
        int s = c.expr(0, c.type(1, false, -1, -1), 0);
        for (int k = 0; k < 2; k++) c.field(1, 0, false);
        c.type(0, true, -1, 1);
        int gT = c.expr(1, 2, 3);
        int gS = c.expr(1, 2, s);
        int a = c.field(2, 3, false);
        int b = c.field(2, 0, false);
        c.type(0, true, -1, gS);
        int hT = c.expr(1, 3, 3);
        int hInt = c.expr(1, 3, 0);
        int e = c.field(3, 3, false);
        c.type(0, true, -1, gT);
        c.expr(1, 4, 3);
        int kS = c.expr(1, 4, s);
        int kInt = c.expr(1, 4, 0);
        int x = c.field(4, 3, false);
        int y = c.field(4, 3, false);
        c.local(0, s);
        c.local(0, 1);
        String set = "locp 0; num 3; set 0 " + s + "; locp 0; num 4; set 1 " + s + "; ";
        due(set + "make " + hInt + "; dup; num 5; set " + e + " " + hInt + "; dup; num 6; set " + b + " " + gS + "; dup; loc 0; set " + a + " " + gS + "; setloc 1; cells; ret", "0 0 6 []");
        c.walk(0, 0, 0, 0);
        c.step(17);
        Due.is("50 of the BASE first", c.thing(1), "{(3,4),6,5}");
        due(set + "make " + kS + "; dup; loc 0; set " + x + " " + kS + "; dup; loc 0; set " + y + " " + kS + "; dup; num 6; set " + b + " " + gS + "; setloc 1; cells; ret", "0 0 9 []");
        c.walk(0, 0, 0, 0);
        c.step(17);
        Due.is("50 both of T", c.thing(1), "{(0,0),6,(3,4),(3,4)}");
        due("make " + kInt + "; setloc 1; cells; ret", "0 0 6 []");
        Due.is("20 its text", c.exprText(hT), "t3<T>");
    }

    /** A VALUE of a STRUCT is copied wherever it goes; a PLACE of it is not. */
    private static void copies() {
        world();
        int s = c.expr(0, c.type(1, false, -1, -1), 0);
        c.field(1, 0, false);
        c.field(1, 0, false);
        c.field(0, s, false);
        c.field(0, s, true);
        int place = c.expr(3, s, 0);
        int byValue = method(0, 1, 0, s, "argp 0; num 50; set 0 " + s + "; arg 0; ret", s);
        int byPlace = method(0, 1, 0, -1, "arg 0; num 60; set 0 " + s + "; ret", place);
        for (int x : new int[] {s, s, c.expr(2, s, 0), 1}) c.local(0, x);
        String first = "locp 0; num 5; set 0 " + s + "; locp 0; num 6; set 1 " + s + "; ";
        String told = "loc 0; get 0 " + s + "; out; ";
        String other = "loc 1; get 0 " + s + "; out; loc 1; get 1 " + s + "; ret";
        due(first + "loc 0; setloc 1; locp 1; num 9; set 0 " + s + "; " + told + other, "0 0 6 [5 9]");
        due(first + "loc 0; call " + byValue + " 4; setloc 1; " + told + other, "0 0 6 [5 50]");
        due(first + "locp 0; call " + byPlace + " 4; loc 0; setloc 1; " + told + other, "0 0 6 [60 60]");
        due(first + "loc 0; dup; locp 0; num 9; set 0 " + s + "; setloc 1; pop; " + told + other, "0 0 6 [9 5]");
        due(first + "loc 0; box " + s + "; setloc 3; locp 0; num 9; set 0 " + s + "; loc 3; unboxa " + s + "; setloc 1; " + told + other, "0 0 6 [9 5]");
        due(first + "loc 0; box " + s + "; setloc 3; loc 3; unbox " + s + "; num 9; set 0 " + s + "; loc 3; unboxa " + s + "; setloc 1; " + told + other, "0 0 6 [5 9]");
        due(first + "num 2; row " + s + "; setloc 2; loc 2; num 1; loc 0; put " + s + "; loc 2; num 1; at " + s + "; setloc 1; locp 1; num 9; set 0 " + s
            + "; loc 2; num 1; at " + s + "; get 0 " + s + "; out; " + told + other, "0 0 6 [5 5 9]");
        due(first + "num 2; row " + s + "; setloc 2; loc 2; num 1; loc 0; put " + s + "; loc 2; num 1; atp " + s + "; num 9; set 0 " + s
            + "; loc 2; num 1; at " + s + "; setloc 1; " + told + other, "0 0 6 [5 9]");
        due(first + "make 4; setloc 3; loc 3; cast 4; loc 0; set 2 4; loc 3; cast 4; getp 2 4; num 9; set 0 " + s + "; loc 3; cast 4; get 2 4; setloc 1; " + told + other, "0 0 6 [5 9]");
        due(first + "loc 0; sets 3 4; getsp 3 4; num 9; set 0 " + s + "; gets 3 4; setloc 1; " + told + other, "0 0 6 [5 9]");
        due(first + "locp 1; loc 0; store " + s + "; locp 0; num 9; set 0 " + s + "; " + told + other, "0 0 6 [9 5]");
        due(first + "locp 0; load " + s + "; locp 0; init " + s + "; setloc 1; " + told + other, "0 0 6 [0 5]");
        // Each FRAME has LOCALS of its own, 0 at first, and what it is given for itself.
        int counts = method(0, 1, 0, 0, "", 0);
        c.local(counts, 0);
        Due.write(c, counts, "loc 0; num 1; add; setloc 0; arg 0; ifnot 11; arg 0; num 1; sub; call " + counts + " 4; pop; loc 0; ret");
        due("num 3; call " + counts + " 4; out; num 0; call " + counts + " 4; ret", "0 0 1 [1]");
    }

    /** A call whose THIS is a BOX: by "callv", by "callon" of what is there, by the BASES of INTERFACES. */
    private static void boxesAsThis() {
        world();
        int i = c.expr(0, c.type(2, false, -1, -1), 0);
        int asked = c.method(1, 3, 2, 0);
        int s = c.expr(0, c.type(1, false, -1, -1), 0);
        c.field(2, 0, false);
        c.implement(2, i);
        method(2, 3, 2, 0, "arg 0; arg 0; get 0 " + s + "; num 1; add; set 0 " + s + "; arg 0; get 0 " + s + "; ret");
        c.local(0, s);
        c.local(0, i);
        String box = "loc 0; box " + s + "; cast " + i + "; setloc 1; ";
        String twice = "loc 1; callv " + asked + " " + i + "; out; ";
        due(box + twice + twice + "loc 0; get 0 " + s + "; ret", "0 0 0 [1 2]");
        due(box + "locp 1; callon " + asked + " " + i + "; out; " + twice + "loc 1; unboxa " + s + "; get 0 " + s + "; ret", "0 0 2 [1 2]");
        due("locp 0; callon " + asked + " " + i + "; out; " + box + twice + "loc 0; get 0 " + s + "; ret", "0 0 1 [1 2]");
        due("num 1; row " + i + "; dup; num 0; loc 0; box " + s + "; cast " + i + "; put " + i + "; num 0; atp " + i + "; callon " + asked + " " + i + "; ret", "0 0 1 []");
        due("num 1; row " + s + "; num 0; atp " + s + "; callon " + asked + " " + i + "; ret", "0 0 1 []");
        due("loc 1; callv " + asked + " " + i + "; ret", "1 1 0 []");
        due("locp 1; callon " + asked + " " + i + "; ret", "1 1 0 []");
        due("loc 0; box " + s + "; unbox " + s + "; callon " + asked + " " + i + "; ret", "0 0 1 []");
        c.walk(0, 0, 0, 0);
        c.step(4);
        Due.is("48 THIS is a PLACE of what is in the BOX", c.value(1, 0, 0) + " " + c.holder(1) + " " + c.thing(1), "&(0) t2 <(0)>");
    }

    /** SIGNATURES that are near to each other: an ANSWER has just the same one. */
    private static void answersOfSignatures() {
        c = new Cellruntime();
        c.type(0, true, -1, 1);
        int aT = c.expr(1, 0, 3);
        int aInt = c.expr(1, 0, 0);
        c.type(0, true, -1, 1);
        int bT = c.expr(1, 1, 3);
        int rowT = c.expr(2, 3, 0);
        int placeT = c.expr(3, 3, 0);
        int rowA = c.expr(2, aT, 0);
        int aRow = c.expr(1, 0, rowT);
        int rowInt = c.expr(2, 0, 0);
        c.type(0, true, -1, aT);
        int dT = c.expr(1, 2, 3);
        int dInt = c.expr(1, 2, 0);
        // Of t0 one METHOD for each of these; of t2 one for each of them, too: the ANSWER of t2 to each is the one with just that.
        int[] given = {3, aT, bT, rowT, placeT, rowA, aRow};
        int[] below = new int[given.length];
        int[] above = new int[given.length];
        for (int k = 0; k < given.length; k++) below[k] = method(0, 1, 2, -1, "", given[k]);
        for (int k = 0; k < given.length; k++) {
            Due.is("25 none above yet: " + c.exprText(given[k]), c.answer(dT, below[k], aT), below[k]);
            above[k] = method(2, 1, 2, -1, "", given[k]);
            Due.is("25 just that one: " + c.exprText(given[k]), c.answer(dT, below[k], aT), above[k]);
            for (int n = k + 1; n < given.length; n++) Due.is("25 none for " + c.exprText(given[n]), c.answer(dInt, below[n], aInt), below[n]);
        }
        // FOR int: T is int, T[] is int[]; the first one with that counts.
        int ofInt = method(2, 1, 2, -1, "", rowInt);
        Due.is("25 T[] FOR int is int[], the first one of both", c.answer(dInt, ofInt, dInt), above[3]);
        Due.is("25 FOR T it is another one", c.answer(dT, ofInt, dT), ofInt);
        // RESULTS: none, T, another one; more and less that is given.
        int none = method(0, 2, 2, -1, "");
        int some = method(2, 2, 2, 3, "");
        Due.is("25 with a RESULT, without", c.answer(dT, none, aT), none);
        Due.is("25 the other way round", c.answer(dT, some, dT), some);
        Due.is("25 of the BASE there is none", c.answer(aT, some, dT), -1);
        int row = method(0, 3, 2, rowT, "");
        method(2, 3, 2, 3, "");
        Due.is("25 T is not T[]", c.answer(dT, row, aT), row);
        int two = method(0, 4, 2, 3, "", 3, 3);
        method(2, 4, 2, 3, "", 3);
        method(2, 4, 2, 3, "", 3, 3, 3);
        Due.is("25 one less and one more", c.answer(dT, two, aT), two);
        int last = method(2, 4, 2, 3, "", 3, 3);
        Due.is("25 just as many", c.answer(dT, two, aT), last);
    }

    /** HOLDER of an ANSWER: the one of the BASES that has it; of "call", and of what is not VIRTUAL, the one that is told. */
    private static void holders() {
        world();
        int i = c.expr(0, c.type(2, false, -1, -1), 0);
        int asked = c.method(1, 3, 2, -1);
        c.type(0, true, -1, 4);
        int aT = c.expr(1, 2, 3);
        int rowT = c.expr(2, 3, 0);
        int aRow = c.expr(1, 2, rowT);
        int virtual = method(2, 3, 2, -1, "ret");
        int own = method(2, 4, 1, -1, "ret");
        c.implement(2, i);
        c.type(0, true, -1, aRow);
        int bT = c.expr(1, 3, 3);
        int bInt = c.expr(1, 3, 0);
        int d = c.expr(0, c.type(0, false, -1, bInt), 0);
        int aInts = c.expr(1, 2, c.expr(2, 0, 0));
        int call = c.expr(0, c.type(3, false, -1, -1), 0);
        c.method(5, 0, 2, -1);
        for (int x : new int[] {d, i, aInts}) c.local(0, x);
        String[] made = {"make " + bInt, "make " + d};
        String[] calls = {"callv " + virtual + " " + aInts, "callv " + asked + " " + i, "call " + virtual + " " + aInts, "call " + own + " " + aInts, "callv " + own + " " + aInts,
            "bind " + virtual + " " + call + "; invoke " + call, "bind " + own + " " + call + "; invoke " + call};
        for (String one : made) {
            for (String two : calls) holder(one + "; " + two, "t2<int[]>");
            holder(one + "; setloc 1; locp 1; callon " + asked + " " + i, "t2<int[]>");
            holder(one + "; setloc 2; locp 2; callon " + asked + " " + i, "t2<int[]>");
        }
        // With one above, that has it for itself.
        method(3, 3, 2, -1, "ret");
        for (String one : made) {
            for (int k = 0; k < calls.length; k++) holder(one + "; " + calls[k], k <= 1 || k == 5 ? "t3<int>" : "t2<int[]>");
            holder(one + "; setloc 1; locp 1; callon " + asked + " " + i, "t3<int>");
        }
        method(4, 3, 2, -1, "ret");
        for (int k = 0; k < calls.length; k++) holder(made[1] + "; " + calls[k], k <= 1 || k == 5 ? "t4" : "t2<int[]>");
        int still = method(4, 5, 0, -1, "ret");
        holder("call " + still + " " + d, "t4");
        holder("bind " + still + " " + call + "; invoke " + call, "t4");
        int open = method(3, 5, 0, -1, "ret");
        holder("call " + open + " " + bInt, "t3<int>");
        Due.is("20 texts", c.exprText(aT) + c.exprText(bT), "t2<T>t3<T>");
    }

    private static void holder(String code, String want) {
        write(0, code + "; num 1; ret");
        Due.is("31 error of " + code, c.error(0), 0);
        c.walk(0, 0, 0, 0);
        c.step(code.split(";").length);
        Due.is("47 HOLDER by " + code, c.ofWalk(5) + " " + c.holder(1), "2 " + want);
    }

    private static void bodies() {
        world();
        c.type(0, true, -1, 1);
        int gT = c.expr(1, 1, 3);
        int s = c.expr(0, c.type(1, false, -1, -1), 0);
        int u = c.expr(0, c.type(1, false, -1, -1), 0);
        int row = c.expr(2, 0, 0);
        int m = method(1, 1, 0, -1, "ret");
        int n = method(1, 2, 0, -1, "call " + m + " " + gT + "; ret");
        int[][] of = {{0}, {1}, {0, 0}, {0, 1}, {1, 2}, {1, 2, 4, row}, {s, u}, {0, s, u}, {0, s, u, 1, row}};
        int[] shared = {2, 2, 2, 3, 2, 2, 3, 4, 5};
        int[] not = {2, 2, 2, 3, 3, 5, 3, 4, 6};
        for (int k = 0; k < of.length; k++) {
            StringBuilder code = new StringBuilder();
            for (int x : of[k]) code.append("call ").append(m).append(' ').append(c.expr(1, 1, x)).append("; ");
            bodiesOf(code + "num 1; ret", shared[k], not[k]);
            StringBuilder twice = new StringBuilder();
            for (int x : of[k]) twice.append("call ").append(n).append(' ').append(c.expr(1, 1, x)).append("; ");
            bodiesOf(twice + "num 1; ret", 2 * shared[k] - 1, 2 * not[k] - 1);
        }
        bodiesOf("num 1; ret", 1, 1);
        bodiesOf("null; throw", 1, 1);
        // A TEST is none; a METHOD that calls itself is one.
        write(0, "null; throw; pop; num 1; endfilter; pop; leave 7; num 1; ret");
        c.handler(0, 1, 0, 2, 5, 7);
        c.handles(0, 0, 2);
        Due.is("37 with a TEST", c.run(0, 1, 0, 0, 0), 0);
        Due.is("39 BODIES of it", c.ofRun(4), 1);
        c.unhandle(0);
        write(0, "arg 0; ifnot 9; arg 0; num 1; sub; num 0; num 0; call 0 4; pop; num 1; ret");
        Due.is("37 one that calls itself", c.run(0, 1, 5, 0, 0), 0);
        Due.is("39 BODIES of it", c.ofRun(4), 1);
    }

    private static void bodiesOf(String code, int shared, int not) {
        write(0, code);
        Due.is("31 error of " + code, c.error(0), 0);
        c.share(true);
        c.run(0, 1, 0, 0, 0);
        Due.is("39 BODIES that are SHARED: " + code, c.ofRun(4), shared);
        c.share(false);
        c.run(0, 1, 0, 0, 0);
        Due.is("39 BODIES that are not: " + code, c.ofRun(4), not);
        c.run(0, 0, 0, 0, 0);
        Due.is("39 by WAY 0: " + code, c.ofRun(4), 0);
    }

    private static void entries() {
        world();
        c.type(0, true, -1, 1);
        c.expr(1, 1, 3);
        c.type(1, false, -1, -1);
        int row = c.expr(2, 0, 0);
        int place = c.expr(3, 0, 0);
        write(0, "num 1; ret");
        Due.is("37 given three INTS", c.run(0, 0, 0, 0, 0), 0);
        Due.is("37 in a STRUCT", c.run(method(2, 1, 0, -1, "ret"), 0, 0, 0, 0), 0);
        Due.is("37 given nothing, with no RESULT", c.run(method(0, 1, 0, -1, "ret"), 0, 0, 0, 0), 0);
        Due.is("39 its RESULT", c.ofRun(3), 0);
        Due.is("37 given one", c.run(method(0, 1, 0, 0, "arg 0; ret", 0), 0, MIN, 1, 2), 0);
        Due.is("39 its RESULT", c.ofRun(3), MIN);
        Due.is("37 given two", c.run(method(0, 1, 0, 0, "arg 1; ret", 0, 0), 0, 1, MAX, 2), 0);
        Due.is("39 its RESULT", c.ofRun(3), MAX);
        int[][] results = {{1, -2}, {2, -2}, {4, -2}, {row, -2}, {place, -2}};
        for (int[] k : results) Due.is("37 with the RESULT " + c.exprText(k[0]), c.run(method(0, 1, 0, k[0], k[0] == place ? "null; unbox 0; ret" : "null; ret"), 0, 0, 0, 0), k[1]);
        for (int x : new int[] {1, 2, 4, row, place}) {
            Due.is("37 given " + c.exprText(x), c.run(method(0, 1, 0, -1, "ret", x), 0, 0, 0, 0), -2);
            if (c.methods() < 20) Due.is("37 given an INT and " + c.exprText(x), c.run(method(0, 1, 0, -1, "ret", 0, 0, x), 0, 0, 0, 0), -2);
        }
    }

    private static void results() {
        world();
        int none = method(0, 1, 0, -1, "num 5; pop; ret");
        Due.write(c, 0, "num 1; ret");
        for (int way = 0; way <= 1; way++) {
            Due.is("37 none", c.run(none, way, 0, 0, 0) + " " + c.ofRun(3), "0 0");
            Due.is("37 one", c.run(0, way, 0, 0, 0) + " " + c.ofRun(3), "0 1");
        }
        due("num 3; out; null; throw", "1 1 0 [3]");
        Due.is("39 RESULT of what is UNCAUGHT", c.ofRun(3), 0);
        due("num 3; out; go 2", "2 0 0 [3]");
        Due.is("39 RESULT of what is CUT", c.ofRun(3), 0);
        Due.is("39 CODE of what is CUT", c.ofRun(1), 0);
        due("arg 0; out; arg 1; out; arg 2; ret", "0 0 -1 [" + MIN + " " + MAX + "]", MIN, MAX, -1);
    }
}
