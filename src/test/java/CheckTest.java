/** Promises 31 to 34: ERRORS and STATES. */
public final class CheckTest {
    private static Cellruntime c;

    // Types of the world in which code is checked: their numbers are the same as those of the TYPES.
    // t0 CLASS of object, t1 STRUCT, t2 INTERFACE (t3 and t1 keep it), t3 CLASS above t0, t4 OPEN CLASS with that BOUND, t5 FAULT's,
    // t6 DELEGATE, t7 OPEN CLASS without a BOUND.
    private static int o0;
    private static int s1;
    private static int i2;
    private static int o3;
    private static int g4;
    private static int g4of3;
    private static int f5;
    private static int d6;
    private static int rowInt;
    private static int row0;
    private static int row3;
    private static int placeInt;
    private static int place1;
    private static int bad;

    public static void main(String[] args) {
        ofNone();
        notWhole();
        numbers();
        numbersOfCalls();
        depths();
        entries();
        entriesOfRows();
        entriesOfCalls();
        targets();
        near();
        merges();
        ends();
        handlers();
        handlersTogether();
        parts();
        ways();
        waysIn();
        states();
        statesOfHandlers();
        statesUpToAnError();
        isRight();
        Due.end("CheckTest");
    }

    private static void world() {
        c = new Cellruntime();
        c.type(0, false, -1, 1);
        o0 = c.expr(0, 0, 0);
        c.type(1, false, -1, -1);
        s1 = c.expr(0, 1, 0);
        c.type(2, false, -1, -1);
        i2 = c.expr(0, 2, 0);
        c.type(0, false, -1, o0);
        o3 = c.expr(0, 3, 0);
        c.type(0, true, i2, 1);
        g4 = c.expr(1, 4, 3);
        g4of3 = c.expr(1, 4, o3);
        bad = c.expr(1, 4, 0);
        c.type(0, false, -1, 2);
        f5 = c.expr(0, 5, 0);
        c.type(3, false, -1, -1);
        d6 = c.expr(0, 6, 0);
        rowInt = c.expr(2, 0, 0);
        row0 = c.expr(2, o0, 0);
        row3 = c.expr(2, o3, 0);
        placeInt = c.expr(3, 0, 0);
        place1 = c.expr(3, s1, 0);
        c.implement(3, i2);
        c.implement(1, i2);
        c.field(0, 0, false);      // f0 int of t0
        c.field(0, o0, true);      // f1 STATIC of t0
        c.field(1, o0, false);     // f2 of t1
        c.field(4, 3, false);      // f3 T of t4
        c.method(2, 1, 2, 0);      // m0 of the INTERFACE
        c.method(3, 1, 2, 0);      // m1 its ANSWER in t3
        c.method(1, 1, 2, 0);      // m2 its ANSWER in t1
        c.method(0, 2, 1, o0);     // m3 OWN of t0, given t0
        c.param(3, o0);
        c.method(0, 3, 0, placeInt); // m4 STATIC, given a PLACE of int, gives one
        c.param(4, placeInt);
        c.method(6, 0, 2, 0);      // m5 of the DELEGATE, given int
        c.param(5, 0);
        c.method(0, 4, 0, 0);      // m6 STATIC, signed as that
        c.param(6, 0);
        for (int m = 1; m <= 2; m++) Due.write(c, m, "num 1; ret");
        Due.write(c, 3, "arg 1; ret");
        Due.write(c, 4, "arg 0; ret");
        Due.write(c, 6, "arg 0; ret");
        c.method(0, 5, 0, 0);      // m7 STATIC of t0, given int and t3; LOCALS int, t0, t1
        c.param(7, 0);
        c.param(7, o3);
        c.local(7, 0);
        c.local(7, o0);
        c.local(7, s1);
    }

    /** A method of the world with that code: "kind place". */
    private static String error(String code) {
        c.cut(7, c.ofMethod(7, 6));
        Due.write(c, 7, code);
        return c.error(7) + " " + c.errorPlace(7);
    }

    private static void due(String code, String want) {
        Due.is("31 error of " + code, error(code), want);
    }

    private static void ofNone() {
        world();
        Due.fails("31 no METHOD", Due.INDEX, () -> c.error(8));
        Due.fails("32 no METHOD", Due.INDEX, () -> c.errorPlace(-1));
        Due.fails("33 no METHOD", Due.INDEX, () -> c.state(8, 0));
        Due.fails("33 no place", Due.INDEX, () -> c.state(1, 2));
        Due.fails("33 no place below", Due.INDEX, () -> c.state(1, -1));
        for (int m = 0; m <= 6; m++) {
            Due.is("31 error(" + m + ")", c.error(m), 0);
            Due.is("32 errorPlace(" + m + ")", c.errorPlace(m), -1);
        }
        Due.is("31 without INSTRUCTIONS", c.error(7), 6);
        Due.is("32 without INSTRUCTIONS", c.errorPlace(7), 0);
        due("arg 0; ret", "0 -1");
        world();
        Due.is("32 asked first", c.errorPlace(7), 0);
        world();
        Due.fails("33 asked first", Due.INDEX, () -> c.state(7, 0));
        Due.is("33 asked of another one", c.state(3, 1), "t0");
        c.cut(1, 1);
        Due.is("52 asked first", c.house(7), 6);
        c.method(2, 8, 2, -1);
        Due.is("18 WHOLE asked first", c.ofType(3, 7), 0);
    }

    private static void notWhole() {
        world();
        c.method(2, 9, 2, -1);
        Due.is("31 its TYPE is not WHOLE", c.error(1), 9);
        Due.is("32 without a place", c.errorPlace(1), -1);
        Due.is("33 without a STATE", c.state(1, 0), "-");
        Due.is("31 of another TYPE", c.error(3), 0);
        c.handler(1, 0, 0, 0, 0, 0);
        Due.is("31 9 ahead of 8", c.error(1), 9);
    }

    private static void numbers() {
        world();
        due("num 9999; ret", "0 -1");
        due("num -9999; ret", "0 -1");
        due("num 10000; ret", "1 0");
        due("num -10000; ret", "1 0");
        due("arg 1; pop; arg 2; ret", "1 2");
        due("arg -1; ret", "1 0");
        due("num 1; setarg 2; num 1; ret", "1 1");
        due("loc 3; ret", "1 0");
        due("num 1; setloc -1; num 1; ret", "1 1");
        due("argp 2; ret", "1 0");
        due("locp 3; ret", "1 0");
        due("go 5", "1 0");
        due("num 1; if -1; num 1; ret", "1 1");
        due("num 1; ifnot 4; num 1; ret", "1 1");
        due("leave 1", "1 0");
        due("make 1; pop; make 2; pop; make " + o0 + "; pop; num 1; ret", "0 -1");
        due("make 99", "1 0");
        due("make 0", "1 0");
        due("make 3", "1 0");
        due("make " + i2, "1 0");
        due("make " + s1, "1 0");
        due("make " + d6, "1 0");
        due("make " + rowInt, "1 0");
        due("make " + bad, "1 0");
        due("make " + g4, "1 0");
        due("make " + g4of3 + "; pop; num 1; ret", "0 -1");
        for (String op : "box unboxa isa row at put atp load store init".split(" ")) due(op + " " + placeInt, "1 0");
        due("null; unbox 0; load 0; ret", "0 -1");
        due("null; unbox " + s1 + "; pop; num 1; ret", "0 -1");
        due("null; unbox " + o0, "1 1");
        due("null; unbox 3", "1 1");
        due("null; cast " + row0 + "; pop; num 1; ret", "0 -1");
        due("null; cast 0", "1 1");
        due("null; cast " + s1, "1 1");
        due("null; cast " + placeInt, "1 1");
        due("invoke " + o0, "1 0");
        due("invoke " + i2, "1 0");
    }

    private static void numbersOfCalls() {
        world();
        due("num 1; call 6 " + o0 + "; ret", "0 -1");
        due("num 1; call 9 " + o0 + "; ret", "1 1");
        due("num 1; call 6 99; ret", "1 1");
        due("num 1; call 6 " + o3 + "; ret", "1 1");
        due("arg 1; call 0 " + i2 + "; ret", "1 1");
        due("num 1; call 5 " + d6 + "; ret", "1 1");
        due("arg 1; callv 0 " + i2 + "; ret", "0 -1");
        due("arg 1; callv 1 " + o3 + "; ret", "0 -1");
        due("num 1; callv 6 " + o0 + "; ret", "1 1");
        due("locp 2; callv 2 " + s1 + "; ret", "1 1");
        due("locp 2; call 2 " + s1 + "; ret", "0 -1");
        due("locp 2; callon 0 " + i2 + "; ret", "0 -1");
        due("argp 1; callon 0 " + i2 + "; ret", "0 -1");
        due("argp 1; callon 1 " + o3 + "; ret", "1 1");
        due("null; get 0 " + o0 + "; ret", "0 -1");
        due("null; get 1 " + o0 + "; ret", "1 1");
        due("null; get 0 " + o3 + "; ret", "1 1");
        due("null; get 9 " + o0 + "; ret", "1 1");
        due("null; get -1 " + o0 + "; ret", "1 1");
        due("gets 1 " + o0 + "; pop; num 1; ret", "0 -1");
        due("gets 0 " + o0 + "; ret", "1 0");
        due("null; get 3 " + bad + "; ret", "1 1");
        due("null; get 3 " + g4of3 + "; pop; num 1; ret", "0 -1");
        due("bind 6 " + d6 + "; pop; num 1; ret", "0 -1");
        due("bind 6 " + o0, "1 0");
        due("bind 0 " + d6, "1 0");
        due("bind 2 " + d6, "1 0");
        due("bind 9 " + d6, "1 0");
    }

    private static void depths() {
        world();
        due("add; ret", "2 0");
        due("num 1; add; ret", "2 1");
        due("ret", "2 0");
        due("num 1; num 1; ret", "2 2");
        due("dup", "2 0");
        due("pop", "2 0");
        due("num 1; num 1; num 1; num 1; num 1; num 1; num 1; num 1; add; pop; pop; pop; pop; pop; pop; ret", "0 -1");
        due("num 1; num 1; num 1; num 1; num 1; num 1; num 1; num 1; num 1; ret", "2 8");
        due("num 1; num 1; num 1; num 1; num 1; num 1; num 1; num 1; dup; ret", "2 8");
        due("arg 1; call 3 " + o0 + "; ret", "2 1");
        due("null; num 1; put 0; num 1; ret", "2 2");
        due("num 1; setcode; num 1; ret", "2 1");
        due("num 1; leave 2; num 1; ret", "0 -1");
    }

    private static void entries() {
        world();
        due("null; ret", "3 1");
        due("num 1; null; add; ret", "3 2");
        due("null; num 1; add; ret", "3 2");
        due("null; num 1; lt; ret", "3 2");
        due("null; null; eq; ret", "0 -1");
        due("num 1; num 1; eq; ret", "0 -1");
        due("num 1; null; eq; ret", "3 2");
        due("loc 2; loc 2; eq; ret", "3 2");
        due("arg 1; loc 1; eq; ret", "0 -1");
        due("loc 2; if 2; num 1; ret", "3 1");
        due("null; if 2; num 1; ret", "0 -1");
        due("arg 1; ifnot 2; num 1; ret", "0 -1");
        due("arg 1; setloc 1; num 1; ret", "0 -1");
        due("loc 1; setarg 1; num 1; ret", "3 1");
        due("null; setarg 1; num 1; ret", "0 -1");
        due("null; setloc 0; num 1; ret", "3 1");
        due("num 1; setloc 2; num 1; ret", "3 1");
        due("null; out; num 1; ret", "3 1");
        due("num 1; pin; num 1; ret", "3 1");
        due("null; throw", "0 -1");
        due("make 2; throw", "0 -1");
        due("make " + f5 + "; throw", "0 -1");
        due("make 1; throw", "3 1");
        due("make 1; codeof; ret", "3 1");
        due("make 2; null; setcode; num 1; ret", "3 2");
        due("arg 1; get 0 " + o0 + "; ret", "0 -1");
        due("num 1; get 0 " + o0 + "; ret", "3 1");
        due("make 1; get 0 " + o0 + "; ret", "3 1");
        due("loc 2; get 2 " + s1 + "; pop; num 1; ret", "0 -1");
        due("locp 2; get 2 " + s1 + "; pop; num 1; ret", "0 -1");
        due("null; get 2 " + s1 + "; pop; num 1; ret", "3 1");
        due("loc 2; null; set 2 " + s1 + "; num 1; ret", "3 2");
        due("locp 2; null; set 2 " + s1 + "; num 1; ret", "0 -1");
        due("locp 2; arg 1; set 2 " + s1 + "; num 1; ret", "0 -1");
        due("loc 2; getp 2 " + s1 + "; pop; num 1; ret", "3 1");
        due("null; num 1; set 0 " + o0 + "; num 1; ret", "0 -1");
        due("null; null; set 0 " + o0 + "; num 1; ret", "3 2");
        due("arg 1; sets 1 " + o0 + "; num 1; ret", "0 -1");
        due("make 1; sets 1 " + o0 + "; num 1; ret", "3 1");
        due("loc 1; box " + o3 + "; pop; num 1; ret", "3 1");
        due("arg 1; box " + o0 + "; pop; num 1; ret", "0 -1");
        due("null; box 0; pop; num 1; ret", "3 1");
        due("num 1; unboxa 0; ret", "3 1");
        due("num 1; isa 0; pop; num 1; ret", "3 1");
        due("loc 2; cast 1; pop; num 1; ret", "3 1");
    }

    private static void entriesOfRows() {
        world();
        due("null; row 0; pop; num 1; ret", "3 1");
        due("num 1; len; ret", "3 1");
        due("null; len; ret", "0 -1");
        due("make 1; len; ret", "3 1");
        due("num 1; row 0; num 0; at 0; ret", "0 -1");
        due("num 1; row 0; null; at 0; ret", "3 3");
        due("num 1; row " + o3 + "; num 0; at " + o0 + "; pop; num 1; ret", "0 -1");
        due("num 1; row " + o0 + "; num 0; at " + o3 + "; pop; num 1; ret", "3 3");
        due("num 1; row " + o0 + "; num 0; arg 1; put " + o3 + "; num 1; ret", "0 -1");
        due("num 1; row " + o3 + "; num 0; loc 1; put " + o0 + "; num 1; ret", "3 4");
        due("num 1; row " + o0 + "; num 0; loc 1; put " + o3 + "; num 1; ret", "3 4");
        due("num 1; row " + o0 + "; num 0; num 1; put " + o0 + "; num 1; ret", "3 4");
        due("null; num 0; null; put " + o0 + "; num 1; ret", "0 -1");
        due("num 1; row " + o3 + "; num 0; atp " + o3 + "; pop; num 1; ret", "0 -1");
        due("num 1; row " + o3 + "; num 0; atp " + o0 + "; pop; num 1; ret", "3 3");
        due("null; num 0; atp 0; load 0; ret", "0 -1");
        due("locp 0; load 0; ret", "0 -1");
        due("locp 0; load 1; ret", "3 1");
        due("null; load 0; ret", "3 1");
        due("locp 1; arg 1; store " + o0 + "; num 1; ret", "0 -1");
        due("argp 1; loc 1; store " + o3 + "; num 1; ret", "3 2");
        due("argp 1; arg 1; store " + o0 + "; num 1; ret", "3 2");
        due("locp 2; init " + s1 + "; num 1; ret", "0 -1");
        due("locp 0; init " + s1 + "; num 1; ret", "3 1");
    }

    private static void entriesOfCalls() {
        world();
        due("arg 1; arg 1; call 3 " + o0 + "; pop; num 1; ret", "0 -1");
        due("arg 1; null; call 3 " + o0 + "; pop; num 1; ret", "0 -1");
        due("null; arg 1; callv 3 " + o0 + "; pop; num 1; ret", "0 -1");
        due("arg 1; num 1; call 3 " + o0 + "; pop; num 1; ret", "3 2");
        due("make 1; arg 1; call 3 " + o0 + "; pop; num 1; ret", "3 2");
        due("loc 1; callv 1 " + o3 + "; ret", "3 1");
        due("loc 2; call 2 " + s1 + "; ret", "3 1");
        due("locp 1; callon 0 " + i2 + "; ret", "3 1");
        due("arg 1; callon 0 " + i2 + "; ret", "3 1");
        due("null; callon 0 " + i2 + "; ret", "3 1");
        due("locp 0; call 4 " + o0 + "; load 0; ret", "0 -1");
        due("locp 1; call 4 " + o0 + "; load 0; ret", "3 1");
        due("null; call 4 " + o0 + "; load 0; ret", "3 1");
        due("null; num 1; invoke " + d6 + "; ret", "0 -1");
        due("null; null; invoke " + d6 + "; ret", "3 2");
        due("make 1; num 1; invoke " + d6 + "; ret", "3 2");
    }

    private static void targets() {
        world();
        int ownSigned = c.method(0, 6, 1, 0);
        c.param(ownSigned, 0);
        Due.write(c, ownSigned, "arg 1; ret");
        due("arg 1; bind " + ownSigned + " " + d6 + "; pop; num 1; ret", "0 -1");
        due("loc 1; bind " + ownSigned + " " + d6 + "; pop; num 1; ret", "0 -1");
        due("null; bind " + ownSigned + " " + d6 + "; pop; num 1; ret", "3 1");
        due("make 1; bind " + ownSigned + " " + d6 + "; pop; num 1; ret", "3 1");
        due("num 1; bind " + ownSigned + " " + d6 + "; pop; num 1; ret", "3 1");
        due("locp 1; bind " + ownSigned + " " + d6 + "; pop; num 1; ret", "3 1");
        due("arg 1; bind 3 " + d6 + "; pop; num 1; ret", "3 1");
        due("bind 4 " + d6 + "; pop; num 1; ret", "3 0");
        due("bind " + ownSigned + " " + d6 + "; pop; num 1; ret", "2 0");
        c.type(3, true, -1, -1);
        c.expr(1, 7, 3);
        int dInt = c.expr(1, 7, 0);
        int dO = c.expr(1, 7, 1);
        int d = c.method(7, 0, 2, 3);
        c.param(d, 3);
        due("bind 6 " + dInt + "; pop; num 1; ret", "0 -1");
        due("bind 6 " + dO + "; pop; num 1; ret", "3 0");
        due("null; num 1; invoke " + dInt + "; ret", "0 -1");
        due("null; num 1; invoke " + dO + "; pop; num 1; ret", "3 2");
        c.type(0, true, -1, 1);
        int gT = c.expr(1, 8, 3);
        int gInt = c.expr(1, 8, 0);
        int gm = c.method(8, 0, 1, 3);
        c.param(gm, 3);
        Due.write(c, gm, "arg 1; ret");
        c.type(0, false, -1, gInt);
        int above = c.expr(0, 9, 0);
        int gs = c.method(8, 0, 0, -1);
        Due.write(c, gs, "ret");
        due("make " + above + "; bind " + gm + " " + dInt + "; pop; num 1; ret", "0 -1");
        due("make " + above + "; bind " + gm + " " + dO + "; pop; num 1; ret", "3 1");
        due("bind " + gs + " " + dInt + "; pop; num 1; ret", "1 0");
        Due.is("31 in an OPEN TYPE", c.error(gm), 0);
        Due.is("20 its text", c.exprText(gT), "t8<T>");
    }

    private static void near() {
        world();
        int m = c.method(0, 7, 0, placeInt);
        c.param(m, placeInt);
        c.param(m, rowInt);
        c.param(m, o0);
        c.local(m, 0);
        c.local(m, s1);
        String[][] all = {
            {"arg 0; ret", "0 -1"}, {"locp 0; ret", "7 1"}, {"argp 1; pop; locp 0; setarg 0; arg 0; ret", "7 3"},
            {"arg 0; setarg 0; arg 0; ret", "0 -1"}, {"arg 1; num 0; atp 0; ret", "0 -1"}, {"arg 2; getp 0 " + o0 + "; ret", "0 -1"},
            {"null; unbox 0; ret", "0 -1"}, {"arg 0; call 4 " + o0 + "; ret", "0 -1"}, {"locp 0; call 4 " + o0 + "; ret", "7 2"},
            {"locp 0; dup; pop; ret", "7 3"}, {"null; ret", "3 1"}, {"locp 1; ret", "3 1"},
        };
        for (String[] one : all) {
            c.cut(m, c.ofMethod(m, 6));
            Due.write(c, m, one[0]);
            Due.is("31 error of " + one[0], c.error(m) + " " + c.errorPlace(m), one[1]);
        }
        c.field(1, 0, false);
        c.cut(m, c.ofMethod(m, 6));
        Due.write(c, m, "locp 1; getp 4 " + s1 + "; ret");
        Due.is("31 into a NEAR STRUCT", c.error(m) + " " + c.errorPlace(m), "7 2");
        Due.is("33 NEAR is told", Due.states(c, m), "; t1&!; int&!");
        int own = c.method(1, 8, 1, placeInt);
        Due.write(c, own, "arg 0; getp 4 " + s1 + "; ret");
        Due.is("31 into THIS of a STRUCT", c.error(own), 0);
        c.cut(m, c.ofMethod(m, 6));
        Due.write(c, m, "locp 1; call " + own + " " + s1 + "; ret");
        Due.is("31 a RESULT by a NEAR THIS", c.error(m) + " " + c.errorPlace(m), "7 2");
        c.cut(m, c.ofMethod(m, 6));
        Due.write(c, m, "num 1; ifnot 4; locp 0; go 5; arg 0; dup; pop; pop; arg 0; ret");
        Due.is("31 NEAR and FAR go together", c.error(m), 0);
        Due.is("33 that is NEAR", c.state(m, 5), "int&!");
        c.change(m, 2, 3, 0, 0);
        c.change(m, 4, 8, 0, 0);
        Due.is("31 the other way round", c.error(m), 0);
        Due.is("33 that is NEAR, too", c.state(m, 5), "int&!");
        c.change(m, 4, 7, 0, 0);
        Due.is("31 a PLACE of a PARAMETER that is one", c.error(m) + " " + c.errorPlace(m), "1 4");
    }

    private static void merges() {
        world();
        due("num 1; if 4; num 1; go 5; num 2; ret", "0 -1");
        due("num 1; if 3; num 1; num 2; ret", "4 3");
        due("num 1; if 4; null; go 5; num 2; ret", "4 5");
        due("num 1; if 4; null; go 5; arg 1; pop; num 1; ret", "0 -1");
        Due.is("33 NULL and a REFERENCE", c.state(7, 5), "t3");
        due("num 1; if 4; loc 1; go 5; arg 1; pop; num 1; ret", "0 -1");
        Due.is("33 BASES", c.state(7, 5), "t0");
        due("num 1; if 4; make " + f5 + "; go 5; make 2; pop; num 1; ret", "0 -1");
        Due.is("33 FAULT", c.state(7, 5), "fault");
        due("num 1; if 4; make " + f5 + "; go 5; arg 1; pop; num 1; ret", "0 -1");
        Due.is("33 OBJECT", c.state(7, 5), "object");
        due("num 1; if 5; num 1; row " + o3 + "; go 7; num 1; row " + o0 + "; pop; num 1; ret", "0 -1");
        Due.is("33 ROWS have OBJECT alone behind them", c.state(7, 7), "object");
        due("num 1; if 5; arg 1; cast " + i2 + "; go 6; arg 1; pop; num 1; ret", "0 -1");
        Due.is("33 an INTERFACE is none of the BASES", c.state(7, 6), "object");
        due("num 1; if 4; locp 0; go 5; argp 0; pop; num 1; ret", "0 -1");
        due("num 1; if 4; locp 0; go 5; locp 1; pop; num 1; ret", "4 5");
        due("num 1; if 4; loc 2; go 5; num 1; pop; num 1; ret", "4 5");
        due("num 1; if 4; loc 2; go 5; null; pop; num 1; ret", "4 5");
        due("arg 1; setloc 1; null; dup; pop; pop; go 0", "0 -1");
        due("null; pop; num 1; go 0", "4 0");
    }

    private static void ends() {
        world();
        due("nop", "6 0");
        due("num 1; pop", "6 1");
        due("num 1; if 0", "6 1");
        due("go 0", "0 -1");
        due("null; throw", "0 -1");
        due("leave 0", "0 -1");
        due("num 1; ret; bind 77 77", "0 -1");
        Due.is("33 what is never come to", c.state(7, 2), "-");
        due("num 1; ret; add", "0 -1");
        due("endfinally", "5 0");
        due("endfilter", "5 0");
        due("num 1; endfilter", "5 1");
    }

    private static void handlers() {
        world();
        error("num 1; ret; nop; nop; leave 0; nop; nop; leave 0; nop; nop");
        int[][] wrong = {
            {0, 2, 2, 5, 8}, {0, 3, 2, 5, 8}, {0, 2, 11, 5, 8}, {0, 2, 5, 5, 5}, {0, 2, 5, 8, 5}, {0, 2, 5, 5, 11}, {0, 2, 5, 4, 8}, {0, 5, 8, 2, 6},
            {0, 2, 8, 5, 6}, {1, 2, 5, 5, 8}, {2, 2, 5, 2, 5},
        };
        for (int[] h : wrong) {
            c.handler(7, h[0], h[1], h[2], h[3], h[4]);
            Due.is("31 HANDLER " + h[0] + " " + h[1] + " " + h[2] + " " + h[3] + " " + h[4], c.error(7) + " " + c.errorPlace(7), "8 0");
            Due.is("33 no STATE", c.state(7, 0), "-");
            c.unhandle(7);
        }
        c.handler(7, 0, 2, 5, 5, 8);
        Due.is("31 a CATCH", c.error(7), 0);
        int[] withs = {99, -1, 0, 1, o0, 3, bad, i2};
        for (int with : withs) {
            c.handles(7, 0, with);
            Due.is("31 a CATCH of " + with, c.error(7) + " " + c.errorPlace(7), "8 0");
        }
        c.handles(7, 0, f5);
        Due.is("31 a CATCH of what is a FAULT", c.error(7), 0);
        c.unhandle(7);
        c.handler(7, 1, 2, 5, 6, 8);
        for (int at : new int[] {6, 7, 4}) {
            c.handles(7, 0, at);
            Due.is("31 a TEST from " + at, c.error(7) + " " + c.errorPlace(7), "8 0");
        }
        c.handles(7, 0, 5);
        Due.is("31 a TEST of one", c.error(7), 0);
        c.unhandle(7);
        c.handler(7, 2, 2, 5, 5, 8);
        c.handler(7, 2, 2, 5, 9, 9);
        Due.is("32 the number of the HANDLER", c.error(7) + " " + c.errorPlace(7), "8 1");
    }

    /** Two HANDLERS, each told as KIND, TRY, BLOCK and WITH, and whether they stand together. */
    private static void together(boolean want, int[] one, int[] other) {
        for (int[] h : new int[][] {one, other}) {
            int n = c.handler(7, h[0], h[1], h[2], h[3], h[4]);
            if (h.length > 5) c.handles(7, n, h[5]);
        }
        int kind = c.error(7);
        String told = "31 HANDLERS " + java.util.Arrays.toString(one) + " " + java.util.Arrays.toString(other);
        Due.is(told, kind == 8 ? "8 " + c.errorPlace(7) : "let", want ? "let" : "8 1");
        c.unhandle(7);
        c.unhandle(7);
    }

    private static void handlersTogether() {
        world();
        StringBuilder nops = new StringBuilder("num 1; ret");
        for (int k = 2; k < 30; k++) nops.append("; nop");
        error(nops.toString());
        together(true, new int[] {0, 2, 4, 4, 6}, new int[] {2, 10, 12, 12, 14});
        together(true, new int[] {0, 2, 4, 6, 8}, new int[] {2, 4, 6, 8, 10});
        together(true, new int[] {0, 2, 4, 4, 6}, new int[] {0, 2, 4, 6, 8});
        together(true, new int[] {1, 2, 4, 5, 6, 4}, new int[] {0, 2, 4, 6, 8});
        together(true, new int[] {0, 2, 4, 6, 8}, new int[] {1, 2, 4, 5, 6, 4});
        together(false, new int[] {0, 2, 4, 4, 6}, new int[] {0, 2, 4, 5, 8});
        together(false, new int[] {0, 2, 4, 4, 6}, new int[] {2, 2, 4, 6, 8});
        together(false, new int[] {2, 2, 4, 4, 6}, new int[] {0, 2, 4, 6, 8});
        together(false, new int[] {2, 2, 4, 4, 6}, new int[] {3, 2, 4, 6, 8});
        together(false, new int[] {0, 2, 4, 6, 8}, new int[] {0, 2, 5, 8, 10});
        together(true, new int[] {0, 2, 4, 4, 6}, new int[] {2, 2, 6, 6, 8});
        together(true, new int[] {1, 2, 4, 5, 6, 4}, new int[] {3, 2, 7, 7, 8});
        together(false, new int[] {2, 2, 6, 6, 8}, new int[] {0, 2, 4, 4, 6});
        together(false, new int[] {0, 2, 4, 4, 6}, new int[] {2, 2, 5, 6, 8});
        together(false, new int[] {1, 2, 4, 6, 7, 5}, new int[] {2, 2, 6, 7, 8});
        together(true, new int[] {0, 10, 12, 12, 14}, new int[] {2, 2, 4, 9, 16});
        together(true, new int[] {2, 2, 4, 9, 16}, new int[] {0, 10, 12, 12, 14});
        together(true, new int[] {0, 10, 11, 11, 12}, new int[] {1, 2, 4, 14, 16, 9});
        together(true, new int[] {1, 2, 4, 14, 16, 9}, new int[] {0, 10, 11, 11, 12});
        together(true, new int[] {1, 2, 4, 14, 18, 9}, new int[] {0, 14, 15, 15, 16});
        together(false, new int[] {1, 2, 4, 12, 16, 9}, new int[] {0, 10, 12, 12, 14});
        together(false, new int[] {2, 2, 4, 9, 16}, new int[] {0, 10, 12, 15, 17});
        together(false, new int[] {2, 2, 4, 9, 16}, new int[] {0, 3, 4, 10, 12});
    }

    /** What is let just in some PARTS: ret, endfinally, endfilter. */
    private static void parts() {
        world();
        error("nop; leave 5; endfinally; nop; leave 5; num 1; ret");
        c.handler(7, 2, 0, 2, 2, 3);
        Due.is("31 endfinally in its BLOCK", c.error(7), 0);
        c.change(7, 0, 25, 0, 0);
        Due.is("31 ret in a TRY", c.error(7) + " " + c.errorPlace(7), "5 0");
        c.change(7, 0, 49, 0, 0);
        Due.is("31 endfinally in a TRY", c.error(7) + " " + c.errorPlace(7), "5 0");
        c.change(7, 0, 0, 0, 0);
        c.change(7, 2, 25, 0, 0);
        Due.is("31 ret in a BLOCK", c.error(7) + " " + c.errorPlace(7), "5 2");
        c.change(7, 2, 50, 0, 0);
        Due.is("31 endfilter in a BLOCK", c.error(7) + " " + c.errorPlace(7), "5 2");
        c.unhandle(7);
        c.change(7, 2, 49, 0, 0);
        c.handler(7, 0, 0, 2, 2, 3);
        Due.is("31 endfinally in the BLOCK of a CATCH", c.error(7) + " " + c.errorPlace(7), "5 2");
        c.unhandle(7);
        c.handler(7, 3, 0, 2, 2, 3);
        Due.is("31 endfinally in the BLOCK of a RESCUE", c.error(7), 0);
        c.unhandle(7);
        error("nop; leave 5; codeof; endfilter; leave 5; num 1; ret");
        c.handler(7, 1, 0, 2, 4, 5);
        c.handles(7, 0, 2);
        Due.is("31 endfilter in its TEST", c.error(7), 0);
        c.change(7, 2, 19, 0, 0);
        Due.is("31 endfilter with more", c.error(7) + " " + c.errorPlace(7), "2 3");
        c.change(7, 2, 0, 0, 0);
        Due.is("31 endfilter of a FAULT", c.error(7) + " " + c.errorPlace(7), "3 3");
        c.change(7, 2, 20, 0, 0);
        Due.is("31 endfilter of nothing", c.error(7) + " " + c.errorPlace(7), "2 3");
        c.change(7, 3, 49, 0, 0);
        Due.is("31 endfinally in a TEST", c.error(7) + " " + c.errorPlace(7), "5 3");
    }

    /** Ways out of PARTS. */
    private static void ways() {
        world();
        error("nop; go 4; endfinally; nop; num 1; ret");
        c.handler(7, 2, 0, 2, 2, 3);
        Due.is("31 go out of a TRY", c.error(7) + " " + c.errorPlace(7), "5 1");
        c.change(7, 1, 48, 4, 0);
        Due.is("31 leave it", c.error(7), 0);
        c.change(7, 1, 0, 0, 0);
        Due.is("31 fall out of it", c.error(7) + " " + c.errorPlace(7), "5 1");
        c.change(7, 1, 48, 4, 0);
        c.change(7, 2, 48, 4, 0);
        Due.is("31 leave the BLOCK of a FINALLY", c.error(7) + " " + c.errorPlace(7), "5 2");
        c.change(7, 2, 0, 0, 0);
        Due.is("31 fall out of it", c.error(7) + " " + c.errorPlace(7), "5 2");
        c.change(7, 2, 16, 2, 0);
        Due.is("31 stay in it", c.error(7), 0);
        c.unhandle(7);
        c.handler(7, 3, 0, 2, 2, 3);
        c.change(7, 2, 48, 4, 0);
        Due.is("31 leave the BLOCK of a RESCUE", c.error(7) + " " + c.errorPlace(7), "5 2");
        c.unhandle(7);
        c.handler(7, 0, 0, 2, 2, 3);
        Due.is("31 leave the BLOCK of a CATCH", c.error(7), 0);
        c.change(7, 2, 16, 4, 0);
        Due.is("31 go out of it", c.error(7) + " " + c.errorPlace(7), "5 2");
        c.unhandle(7);
        error("nop; leave 5; leave 5; endfilter; leave 5; num 1; ret");
        c.handler(7, 1, 0, 2, 4, 5);
        c.handles(7, 0, 2);
        Due.is("31 leave a TEST", c.error(7) + " " + c.errorPlace(7), "5 2");
        Due.is("33 a TEST has a FAULT", c.state(7, 2), "fault");
    }

    /** Ways into PARTS: just where a TRY begins, with nothing on the stack. */
    private static void waysIn() {
        world();
        error("nop; nop; leave 5; endfinally; nop; num 1; ret");
        c.handler(7, 2, 1, 3, 3, 4);
        Due.is("31 into a TRY", c.error(7), 0);
        c.change(7, 0, 16, 2, 0);
        Due.is("31 into the middle of it", c.error(7) + " " + c.errorPlace(7), "5 0");
        c.change(7, 0, 1, 1, 0);
        Due.is("31 with something on the stack", c.error(7) + " " + c.errorPlace(7), "5 0");
        c.change(7, 0, 16, 3, 0);
        Due.is("31 into a BLOCK", c.error(7) + " " + c.errorPlace(7), "5 0");
        c.change(7, 0, 48, 1, 0);
        Due.is("31 leave into it", c.error(7), 0);
        c.change(7, 0, 48, 2, 0);
        Due.is("31 leave into the middle of it", c.error(7) + " " + c.errorPlace(7), "5 0");
        c.unhandle(7);
        error("nop; leave 3; endfinally; num 1; ret");
        c.handler(7, 2, 1, 2, 0, 1);
        Due.is("31 0 lies in a BLOCK", c.error(7) + " " + c.errorPlace(7), "5 0");
        Due.is("33 it has its STATE", c.state(7, 0), "");
        Due.is("33 nothing was looked at", c.state(7, 1), "-");
        c.change(7, 0, 1, 99999, 0);
        Due.is("31 ahead of what 0 tells", c.error(7) + " " + c.errorPlace(7), "5 0");
        c.unhandle(7);
        error("nop; nop; leave 3; num 1; ret");
        c.handler(7, 1, 2, 3, 1, 2);
        c.handles(7, 0, 0);
        Due.is("31 0 lies in a TEST", c.error(7) + " " + c.errorPlace(7), "5 0");
        c.unhandle(7);
        c.handler(7, 2, 0, 3, 3, 4);
        Due.is("31 0 lies in a TRY", c.error(7) + " " + c.errorPlace(7), "5 2");
    }

    private static void states() {
        world();
        error("num 1; null; arg 1; locp 0; loc 2; make 1; isa " + s1 + "; num 3; row " + row0 + "; pop; pop; pop; pop; pop; pop; ret");
        Due.is("33 states", Due.states(c, 7), "; int; int null; int null t3; int null t3 int&!; int null t3 int&! t1; int null t3 int&! t1 object; "
            + "int null t3 int&! t1 object; int null t3 int&! t1 object int; int null t3 int&! t1 object t0[][]; int null t3 int&! t1 object; "
            + "int null t3 int&! t1; int null t3 int&!; int null t3; int null; int");
        Due.is("31 it is RIGHT", c.error(7), 0);
        error("arg 1; isa " + o0 + "; cast " + i2 + "; box " + i2 + "; unboxa " + row3 + "; num 0; at " + o0 + "; get 0 " + o0 + "; ret");
        Due.is("33 what is left", Due.states(c, 7), "; t3; t0; t2; object; t3[]; t3[] int; t0; int");
        error("null; unbox " + s1 + "; getp 2 " + s1 + "; load " + o0 + "; getp 0 " + o0 + "; load 0; ret");
        Due.is("33 PLACES that are FAR", Due.states(c, 7), "; null; t1&; t0&; t0; int&; int");
        error("null; get 3 " + g4of3 + "; dup; pop; pop; bind 6 " + d6 + "; num 2; invoke " + d6 + "; ret");
        Due.is("33 FOR an ARGUMENT", Due.states(c, 7), "; null; t3; t3 t3; t3; ; t6; t6 int; int");
    }

    private static void statesOfHandlers() {
        world();
        error("num 1; pop; leave 9; codeof; endfilter; pop; leave 9; throw; endfinally; num 1; ret");
        c.handler(7, 1, 0, 3, 5, 7);
        c.handles(7, 0, 3);
        c.handler(7, 0, 0, 3, 7, 8);
        c.handles(7, 1, f5);
        c.handler(7, 2, 0, 8, 8, 9);
        Due.is("31 RIGHT", c.error(7), 0);
        Due.is("33 TEST, BLOCKS", Due.states(c, 7), "; int; ; fault; int; fault; ; t5; ; ; int");
        world();
        error("nop; leave 5; pop; make 1; go 2; num 1; ret");
        c.handler(7, 0, 0, 2, 2, 5);
        Due.is("31 back to where a BLOCK begins", c.error(7), 0);
        Due.is("33 both go together there", c.state(7, 2), "object");
        c.change(7, 3, 1, 1, 0);
        Due.is("31 they do not", c.error(7) + " " + c.errorPlace(7), "4 2");
    }

    private static void statesUpToAnError() {
        world();
        error("num 1; if 4; null; go 5; num 2; out; num 1; ret");
        Due.is("33 up to an ERROR", Due.states(c, 7), "; int; ; null; ; null; -; -");
        Due.is("31 a REFERENCE is no INT", c.error(7) + " " + c.errorPlace(7), "4 5");
        error("num 1; dup; add; null; add; ret");
        Due.is("33 up to the place of it", Due.states(c, 7), "; int; int int; int; int null; -");
        error("num 1; if 0; nop");
        Due.is("33 up to where it would go beyond", Due.states(c, 7), "; int; ");
        Due.is("32 the first one that waits is looked at first", c.error(7) + " " + c.errorPlace(7), "6 2");
    }

    private static void isRight() {
        Cellruntime c = new Cellruntime();
        Due.is("34 nothing there", c.isRight(), true);
        c.type(0, false, -1, 1);
        Due.is("34 a TYPE", c.isRight(), true);
        c.type(3, false, -1, -1);
        Due.is("34 a DELEGATE that is not WHOLE", c.isRight(), false);
        c.method(1, 0, 2, -1);
        Due.is("34 that is WHOLE", c.isRight(), true);
        c.method(0, 0, 0, -1);
        Due.is("34 a METHOD that is not RIGHT", c.isRight(), false);
        c.code(1, 25, 0, 0);
        Due.is("34 that is RIGHT", c.isRight(), true);
    }
}
