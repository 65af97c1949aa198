/**
 * Sections 2 and 3 of the document, at their edges: each INSTRUCTION with just what it is given, with less, with something
 * else, with 8 entries and with more; its numbers just let and just beyond; STATES that come together, in each order.
 */
public final class CodeEdgesTest {
    private static final int MIN = Integer.MIN_VALUE, MAX = Integer.MAX_VALUE;
    private static Cellruntime c;
    // The METHOD that is written, and the EXPRESSIONS of the world.
    private static int m;
    private static int o0;
    private static int s1;
    private static int i2;
    private static int o3;
    private static int g4;
    private static int g4of3;
    private static int g4ofInt;
    private static int f5;
    private static int d6;
    private static int d7;
    private static int place;
    private static int rowOfInt;

    public static void main(String[] args) {
        slots();
        sums();
        jumps();
        fields();
        boxes();
        rows();
        places();
        calls();
        binds();
        faults();
        withT();
        numbersOfSlots();
        numbersOfPlaces();
        numbersOfExprs();
        numbersOfMembers();
        nears();
        merges();
        mergesOfBases();
        again();
        empty();
        texts();
        asked();
        Due.end("CodeEdgesTest");
    }

    /**
     * t0 CLASS (f0 INT, f1 STATIC INT), t1 STRUCT (f2 INT), t2 INTERFACE (m0), t3 CLASS above t0 that keeps t2, t4 OPEN CLASS with
     * that BOUND (f3 T, f4 STATIC T), t5 FAULT's, t6 DELEGATE of INT, t7 DELEGATE without a METHOD. The METHOD m of t0 is STATIC, given
     * an INT, a t3 and a PLACE of INT, and has LOCALS INT, t0, t1.
     */
    private static void world() {
        c = new Cellruntime();
        c.type(0, false, -1, 1);
        o0 = c.expr(0, 0, 0);
        c.type(1, false, -1, -1);
        s1 = c.expr(0, 1, 0);
        c.type(2, false, -1, -1);
        i2 = c.expr(0, 2, 0);
        c.type(0, false, -1, o0);
        o3 = c.expr(0, 3, 0);
        c.type(0, true, i2, 1);
        g4 = c.expr(1, 4, 3);
        g4of3 = c.expr(1, 4, o3);
        g4ofInt = c.expr(1, 4, 0);
        c.type(0, false, -1, 2);
        f5 = c.expr(0, 5, 0);
        c.type(3, false, -1, -1);
        d6 = c.expr(0, 6, 0);
        c.type(3, false, -1, -1);
        d7 = c.expr(0, 7, 0);
        place = c.expr(3, 0, 0);
        rowOfInt = c.expr(2, 0, 0);
        c.implement(3, i2);
        c.implement(1, i2);
        int[][] fields = {{0, 0, 0}, {0, 0, 1}, {1, 0, 0}, {4, 3, 0}, {4, 3, 1}};
        for (int[] f : fields) c.field(f[0], f[1], f[2] == 1);
        method(2, 1, 2, 0, "");
        method(3, 1, 2, 0, "num 1; ret");
        method(1, 1, 2, 0, "num 1; ret");
        method(0, 2, 1, o0, "arg 1; ret", 0, o0);
        c.change(3, 0, 3, 2, 0);
        method(0, 3, 0, place, "arg 0; ret", place);
        method(6, 0, 2, 0, "", 0);
        method(0, 4, 0, 0, "arg 0; ret", 0);
        method(0, 5, 1, 0, "arg 1; ret", 0);
        method(4, 6, 1, 3, "arg 1; ret", 3);
        m = method(0, 7, 0, -1, "", 0, o3, place);
        for (int x : new int[] {0, o0, s1}) c.local(m, x);
        for (int k = 0; k < m; k++) Due.is("31 METHOD " + k + " of the world", c.error(k), 0);
    }

    private static int method(int type, int name, int mode, int result, String code, int... given) {
        int made = c.method(type, name, mode, result);
        for (int x : given) c.param(made, x);
        Due.write(c, made, code);
        return made;
    }

    private static String error(String code) {
        c.cut(m, c.ofMethod(m, 6));
        Due.write(c, m, code);
        return c.error(m) + " " + c.errorPlace(m);
    }

    private static void due(String code, String want) {
        Due.is("31 error of " + code, error(code), want);
    }

    /**
     * An INSTRUCTION with what it is given, from the bottom on: of each operand the first code is let, the others (behind "|") are
     * not. It ends with an INSTRUCTION that goes on at itself, which has the STATE behind.
     */
    private static void given(String op, String behind, String... operands) {
        StringBuilder good = new StringBuilder();
        for (String o : operands) good.append(o.split("\\|")[0]).append("; ");
        int at = places(good.toString());
        String ends = "; go " + (at + 1);
        due(good + op + ends, "0 -1");
        Due.is("33 behind " + good + op, c.state(m, at + 1), behind);
        if (operands.length > 0) less(op, ends, operands);
        for (int k = 0; k < operands.length; k++) {
            String[] all = operands[k].split("\\|");
            for (int n = 1; n < all.length; n++) {
                StringBuilder code = new StringBuilder();
                for (int j = 0; j < operands.length; j++) code.append(j == k ? all[n] : operands[j].split("\\|")[0]).append("; ");
                due(code + op + ends, "3 " + places(code.toString()));
            }
        }
        int more = behind.isEmpty() ? 0 : behind.split(" ").length;
        if (more > operands.length) eight(good + op, at, more, ends);
    }

    private static int places(String code) {
        int count = 0;
        for (String line : code.split(";")) if (!line.isBlank()) count++;
        return count;
    }

    private static void less(String op, String ends, String... operands) {
        StringBuilder code = new StringBuilder("nop; ");
        for (int k = 1; k < operands.length; k++) code.append(operands[k].split("\\|")[0]).append("; ");
        due(code + op + ends, "2 " + places(code.toString()));
    }

    /** With so much below that just 8 entries lie there behind it; and with one more. */
    private static void eight(String code, int at, int more, String ends) {
        String full = "num 1; ".repeat(8 - more);
        due(full + code + "; go " + (8 - more + at + 1), "0 -1");
        due(full + "num 1; " + code + "; go " + (8 - more + at + 2), "2 " + (8 - more + at + 1));
    }

    private static void slots() {
        world();
        given("nop", "");
        given("num 1", "int");
        given("null", "null");
        given("arg 0", "int");
        given("arg 1", "t3");
        given("arg 2", "int&");
        given("loc 0", "int");
        given("loc 1", "t0");
        given("loc 2", "t1");
        given("argp 0", "int&!");
        given("argp 1", "t3&!");
        given("locp 0", "int&!");
        given("locp 2", "t1&!");
        given("setarg 0", "", "num 1|null|arg 1|loc 2|arg 2|locp 0");
        given("setarg 1", "", "arg 1|num 1|loc 1|make 1|loc 2|arg 2|argp 1");
        given("setarg 1", "", "null");
        given("setarg 2", "", "arg 2|num 1|null|arg 1|loc 2|argp 1|locp 2");
        given("setloc 0", "", "num 1|null|arg 1|loc 2|arg 2");
        given("setloc 1", "", "arg 1|num 1|make 1|loc 2|arg 2|locp 1");
        given("setloc 1", "", "loc 1");
        given("setloc 1", "", "null");
        given("setloc 2", "", "loc 2|null|num 1|locp 2|arg 1");
        given("dup", "int int", "num 1");
        given("dup", "null null", "null");
        given("dup", "t1 t1", "loc 2");
        given("dup", "int& int&", "arg 2");
        given("dup", "int&! int&!", "locp 0");
        for (String one : "num 1,null,arg 1,loc 2,arg 2,locp 2".split(",")) given("pop", "", one);
    }

    private static void sums() {
        world();
        String number = "num 1|null|arg 1|loc 2|arg 2|make 1";
        for (String op : "add sub mul div rem lt".split(" ")) given(op, "int", number, number);
        given("eq", "int", "num 1|null|arg 1|loc 2|arg 2", "num 1|null|arg 1|loc 2|arg 2");
        given("eq", "int", "arg 1|num 1|loc 2|arg 2", "null|num 1|loc 2|arg 2");
        given("eq", "int", "null|num 1|loc 2|arg 2", "null|num 1|loc 2|arg 2");
        given("eq", "int", "arg 1", "loc 1");
        given("eq", "int", "arg 1", "num 1; row 0");
        due("loc 2; loc 2; eq; go 3", "3 2");
        due("arg 2; arg 2; eq; go 3", "3 2");
        given("out", "", number);
        given("cells", "int");
        given("unpin", "");
        given("gc", "");
        given("pin", "", "arg 1|num 1|loc 2|arg 2");
        given("pin", "", "null");
    }

    private static void jumps() {
        world();
        for (String op : "if ifnot".split(" ")) {
            for (String one : "num 1,null,arg 1,make 1".split(",")) given(op + " 2", "", one);
            given(op + " 2", "", "num 1|loc 2|arg 2|locp 0");
        }
        given("leave 1", "");
        due("num 1; null; loc 2; leave 4; go 4", "0 -1");
        Due.is("33 behind \"leave\" there is nothing", c.state(m, 4), "");
        due("num 1; ".repeat(8) + "leave 9; go 9", "0 -1");
        due("ret", "0 -1");
        due("num 1; ret", "2 1");
        due("num 1; num 1; ret", "2 2");
        due("null; throw", "0 -1");
        due("num 1; null; throw", "0 -1");
        due("throw", "2 0");
        for (String one : "num 1,make 1,loc 2,arg 1,arg 2".split(",")) due(one + "; throw", "3 1");
        due("make " + f5 + "; throw", "0 -1");
        due("make 2; throw", "0 -1");
    }

    private static void fields() {
        world();
        for (String one : "loc 1,arg 1,null".split(",")) {
            given("get 0 " + o0, "int", one + "|num 1|make 1|loc 2|arg 2|locp 1");
            given("getp 0 " + o0, "int&", one + "|num 1|make 1|loc 2|arg 2|locp 1");
            given("set 0 " + o0, "", one + "|num 1|make 1|loc 2|arg 2|locp 1", "num 1|null|arg 1");
        }
        given("get 2 " + s1, "int", "loc 2|null|num 1|locp 0|arg 1|argp 1");
        given("get 2 " + s1, "int", "locp 2|null|num 1|locp 0|arg 1|argp 1");
        given("get 2 " + s1, "int", "null; unbox " + s1);
        given("getp 2 " + s1, "int&!", "locp 2|loc 2|null|num 1|locp 0");
        given("getp 2 " + s1, "int&", "null; unbox " + s1);
        given("set 2 " + s1, "", "locp 2|loc 2|null|num 1|locp 0", "num 1|null|loc 2");
        given("get 3 " + g4of3, "t3", "make " + g4of3 + "|make 1|num 1|arg 1");
        given("set 3 " + g4of3, "", "make " + g4of3, "arg 1|loc 1|num 1");
        given("getp 3 " + g4of3, "t3&", "null");
        given("gets 1 " + o0, "int");
        given("sets 1 " + o0, "", "num 1|null|arg 1|loc 2");
        given("getsp 1 " + o0, "int&");
        given("gets 4 " + g4of3, "t3");
        given("sets 4 " + g4of3, "", "arg 1|loc 1|num 1");
        given("getsp 4 " + g4of3, "t3&");
    }

    private static void boxes() {
        world();
        given("box 0", "object", "num 1|null|arg 1|loc 2|arg 2");
        given("box " + o0, "object", "arg 1|num 1|make 1|loc 2|locp 1");
        given("box " + o0, "object", "null");
        given("box " + s1, "object", "loc 2|num 1|null|locp 2");
        for (String one : "arg 1,null,make 1".split(",")) {
            String operand = one + "|num 1|loc 2|arg 2|locp 1";
            given("unbox 0", "int&", operand);
            given("unbox " + s1, "t1&", operand);
            given("unboxa 0", "int", operand);
            given("unboxa " + s1, "t1", operand);
            given("unboxa " + o0, "t0", operand);
            given("cast " + o3, "t3", operand);
            given("cast " + rowOfInt, "int[]", operand);
            given("cast " + i2, "t2", operand);
            given("isa " + o3, "t3", operand);
            given("isa 0", "object", operand);
            given("isa " + s1, "object", operand);
            given("isa 2", "fault", operand);
        }
        given("make 1", "object");
        given("make 2", "fault");
        given("make " + o3, "t3");
        given("make " + g4of3, "t4<t3>");
    }

    private static void rows() {
        world();
        String number = "num 1|null|arg 1|loc 2";
        String of0 = "num 1; row " + o0;
        String of3 = "num 1; row " + o3;
        String ofInt = "num 1; row 0";
        given("row 0", "int[]", number);
        given("row " + o3, "t3[]", number);
        given("row " + rowOfInt, "int[][]", number);
        for (String one : (ofInt + "," + of3 + ",null").split(",")) given("len", "int", one + "|num 1|make 1|loc 2|arg 2|arg 1");
        for (String one : (of0 + "," + of3 + ",null").split(",")) given("at " + o0, "t0", one + "|num 1|make 1|" + ofInt + "|num 1; row 1|arg 2", number);
        given("at " + o3, "t3", of3 + "|" + of0, number);
        given("at " + i2, "t2", of3 + "|" + of0, number);
        given("at 1", "object", of3 + "|" + ofInt, number);
        given("at 0", "int", ofInt + "|" + of3 + "|num 1; row " + s1, number);
        for (String one : (of0 + "," + of3 + ",num 1; row 1,null").split(",")) {
            given("put " + o3, "", one + "|" + ofInt + "|make 1|num 1|loc 2", number, "arg 1|num 1|loc 1|make 1|loc 2");
        }
        given("put " + o3, "", "num 1; row " + i2, number, "null");
        given("put " + o0, "", of0 + "|" + of3, number, "arg 1|num 1|make 1");
        given("put 0", "", ofInt + "|" + of3, number, "num 1|null|arg 1");
        given("atp " + o0, "t0&", of0 + "|" + of3 + "|num 1; row 1|make 1|num 1|" + ofInt, number);
        given("atp " + o0, "t0&", "null", number);
        given("atp 0", "int&", ofInt + "|" + of3, number);
    }

    private static void places() {
        world();
        given("load 0", "int", "locp 0|num 1|null|locp 1|loc 2|arg 1");
        given("load 0", "int", "arg 2");
        given("load " + o0, "t0", "locp 1|argp 1|loc 1|null");
        given("load " + o3, "t3", "argp 1|locp 1");
        given("load " + s1, "t1", "locp 2|loc 2|null");
        given("store 0", "", "arg 2|locp 1|num 1|null", "num 1|null|arg 1|loc 2");
        given("store " + o0, "", "locp 1|argp 1|loc 1|null|num 1", "loc 1|num 1|make 1|loc 2");
        given("store " + o0, "", "locp 1", "arg 1");
        given("store " + o0, "", "locp 1", "null");
        given("store " + s1, "", "locp 2|loc 2|null", "loc 2|null|num 1|locp 2");
        given("init 0", "", "arg 2|locp 1|num 1|null");
        given("init " + s1, "", "locp 2|loc 2|null|locp 0");
        given("init " + o3, "", "argp 1|locp 1|null");
    }

    private static void calls() {
        world();
        String self = "|num 1|make 1|loc 2|arg 2|locp 1";
        for (String op : "call callv".split(" ")) for (String one : "loc 1,arg 1,null".split(",")) {
            given(op + " 3 " + o0, "t0", one + self, "num 1|null|arg 1", "arg 1|num 1|make 1|loc 2");
            given(op + " 3 " + o0, "t0", one, "num 1", "null");
        }
        given("call 1 " + o3, "int", "arg 1|loc 1|num 1|make 1|argp 1");
        given("callv 1 " + o3, "int", "arg 1|loc 1|num 1|make 1|argp 1");
        given("callv 0 " + i2, "int", "arg 1|loc 1|num 1|make 1|loc 2|locp 2");
        given("callv 0 " + i2, "int", "null");
        given("call 2 " + s1, "int", "locp 2|loc 2|null|num 1|arg 1|locp 0");
        given("call 2 " + s1, "int", "null; unbox " + s1);
        given("callon 0 " + i2, "int", "argp 1|arg 1|null|num 1|locp 0|locp 1|loc 2");
        given("callon 0 " + i2, "int", "locp 2");
        given("callon 0 " + i2, "int", "null; num 0; atp " + i2);
        given("call 6 " + o0, "int", "num 1|null|arg 1|loc 2");
        given("call 4 " + o0, "int&!", "locp 0|num 1|null|locp 1");
        given("call 4 " + o0, "int&", "arg 2");
        given("call 8 " + g4of3, "t3", "make " + g4of3 + "|make 1|num 1", "arg 1|loc 1|num 1");
        given("call 8 " + g4of3, "t3", "null", "null");
        given("invoke " + d6, "int", "null|num 1|make 1|loc 2|arg 2", "num 1|null|arg 1|loc 2");
        given("invoke " + d6, "int", "bind 6 " + d6, "num 1");
        int none = method(0, 8, 0, -1, "ret");
        given("call " + none + " " + o0, "");
        due("num 1; ".repeat(8) + "call " + none + " " + o0 + "; go 9", "0 -1");
        int three = method(0, 9, 0, -1, "ret", 0, o3, place);
        given("call " + three + " " + o0, "", "num 1|null", "arg 1|num 1", "arg 2|null|num 1|locp 1");
        given("call " + three + " " + o0, "", "num 1", "null", "locp 0");
    }

    private static void binds() {
        world();
        given("bind 6 " + d6, "t6");
        for (String one : "loc 1,arg 1".split(",")) given("bind 7 " + d6, "t6", one + "|null|num 1|make 1|loc 2|arg 2|locp 1|make " + f5);
        due("arg 1; bind 3 " + d6 + "; go 2", "3 1");
        due("bind 4 " + d6 + "; go 1", "3 0");
        due("arg 1; bind 1 " + d6 + "; go 2", "3 1");
        // SIGNATURES: one more, one less, another one, another RESULT, none.
        int[][] given = {{0, 0}, {}, {1}, {0}, {0}, {0}};
        int[] results = {0, 0, 0, 1, -1, 0};
        for (int k = 0; k < given.length; k++) {
            int s = method(0, 8, 0, results[k], results[k] < 0 ? "ret" : results[k] == 1 ? "null; ret" : "num 1; ret", given[k]);
            int own = method(0, 8, 1, results[k], results[k] < 0 ? "ret" : results[k] == 1 ? "null; ret" : "num 1; ret", given[k]);
            due("bind " + s + " " + d6 + "; go 1", k == 5 ? "0 -1" : "3 0");
            due("loc 1; bind " + own + " " + d6 + "; go 2", k == 5 ? "0 -1" : "3 1");
        }
        // The one of the DELEGATE has no RESULT.
        int d = c.type(3, false, -1, -1);
        int dx = c.expr(0, d, 0);
        due("bind 6 " + dx + "; go 1", "1 0");
        method(d, 0, 2, -1, "", 0);
        due("bind 6 " + dx + "; go 1", "3 0");
        int s = method(0, 8, 0, -1, "ret", 0);
        due("bind " + s + " " + dx + "; go 1", "0 -1");
        due("bind " + s + " " + d6 + "; go 1", "3 0");
    }

    private static void faults() {
        world();
        for (String one : ("make 2,null,make " + f5).split(",")) {
            given("codeof", "int", one + "|num 1|make 1|loc 2|arg 1|arg 2");
            given("setcode", "", one + "|num 1|make 1|loc 2|arg 1|arg 2", "num 1|null|arg 1|loc 2");
        }
        due("endfinally", "5 0");
        due("num 1; endfilter", "5 1");
        due("endfilter", "5 0");
    }

    /** In an OPEN TYPE with a BOUND: T is neither a REFERENCE nor a VALUE. */
    private static void withT() {
        world();
        m = method(4, 9, 1, -1, "", 3, 0);
        for (int x : new int[] {3, g4, 1}) c.local(m, x);
        int rowT = c.expr(2, 3, 0);
        int placeT = c.expr(3, 3, 0);
        given("arg 0", "t4<T>");
        given("arg 1", "T");
        given("argp 1", "T&!");
        given("locp 0", "T&!");
        given("setarg 1", "", "arg 1|null|num 1|loc 2|loc 1|argp 1");
        given("setloc 0", "", "loc 0|null|num 1|loc 2");
        given("setloc 1", "", "arg 0|loc 2|num 1|arg 1");
        given("setloc 2", "", "arg 0|arg 1|num 1");
        given("box 3", "object", "arg 1|null|num 1|loc 2");
        given("unboxa 3", "T", "loc 2|arg 1|num 1");
        given("isa 3", "object", "loc 2|arg 1|num 1");
        given("row 3", "T[]", "num 1|arg 1");
        given("at 3", "T", "num 1; row 3|num 1; row 1|num 1; row 0", "num 1");
        given("put 3", "", "num 1; row 3|num 1; row 1|num 1; row 0", "num 1", "arg 1|null|num 1|loc 2");
        given("put 1", "", "num 1; row 1|num 1; row 3", "num 1", "arg 0|arg 1");
        given("atp 3", "T&", "num 1; row 3|num 1; row 1", "num 1");
        given("load 3", "T", "locp 0|locp 2|arg 1|null");
        given("store 3", "", "argp 1|locp 2|null", "loc 0|null|loc 2");
        given("init 3", "", "argp 1|locp 2|null");
        given("get 3 " + g4, "T", "arg 0|arg 1|loc 2");
        given("set 3 " + g4, "", "arg 0", "arg 1|null|num 1");
        given("getp 3 " + g4, "T&", "arg 0");
        given("gets 4 " + g4, "T");
        given("call 8 " + g4, "T", "arg 0|arg 1|loc 2", "loc 0|null");
        given("callon 0 " + i2, "int", "argp 1|arg 1|locp 2|locp 1");
        given("callon 0 " + i2, "int", "num 1; row 3; num 0; atp 3");
        for (String one : "arg 1,loc 0".split(",")) {
            due(one + "; if 2; go 2", "3 1");
            due(one + "; " + one + "; eq; go 3", "3 2");
            due(one + "; null; eq; go 3", "3 2");
            due(one + "; throw", "3 1");
            due(one + "; cast 1; go 2", "3 1");
            due(one + "; pin; go 2", "3 1");
            due(one + "; callv 0 " + i2 + "; go 2", "3 1");
        }
        for (String op : "make unbox cast".split(" ")) due("null; " + op + " 3; go 2", "1 1");
        due("null; cast " + rowT + "; go 2", "0 -1");
        due("null; cast " + placeT + "; go 2", "1 1");
        // The same without a BOUND: T KEEPS nothing.
        int t = c.type(0, true, -1, 1);
        c.expr(1, t, 3);
        m = method(t, 9, 1, -1, "", 3);
        due("argp 1; callon 0 " + i2 + "; go 2", "3 1");
        due("arg 1; pop; make " + g4 + "; go 3", "1 2");
        due("make " + g4of3 + "; go 1", "0 -1");
    }

    private static void numbersOfSlots() {
        world();
        String[] ops = {"arg", "setarg", "argp", "loc", "setloc", "locp"};
        int[] many = {3, 3, 2, 3, 3, 3};
        String[] values = {"num 1", "arg 1", "arg 2", "num 1", "loc 1", "loc 2"};
        for (int k = 0; k < ops.length; k++) {
            for (int n = 0; n < many[k]; n++) {
                String value = k % 3 == 1 ? values[n + (k < 3 ? 0 : 3)] : "nop";
                due(value + "; " + ops[k] + " " + n + "; go 2", "0 -1");
            }
            for (int n : new int[] {MIN, -1, 3, MAX}) due("num 1; " + ops[k] + " " + n + "; go 2", "1 1");
        }
        due("argp 2; go 1", "1 0");
        // The same of one with THIS: that is the first PARAMETER.
        m = method(1, 9, 1, -1, "", 0);
        due("arg 0; go 1", "0 -1");
        Due.is("33 THIS of a STRUCT is a PLACE", c.state(m, 1), "t1&");
        due("arg 1; go 1", "0 -1");
        due("arg 2; go 1", "1 0");
        due("argp 0; go 1", "1 0");
        due("argp 1; go 1", "0 -1");
        due("loc 0; go 1", "1 0");
        // THIS and three that are given; four LOCALS.
        m = method(0, 9, 1, -1, "", 0, 0, 0);
        for (int k = 0; k < 4; k++) Due.is("8 a LOCAL", c.local(m, 0), k + 1);
        for (String op : "arg loc argp locp".split(" ")) {
            for (int n = 0; n <= 3; n++) due(op + " " + n + "; go 1", "0 -1");
            for (int n : new int[] {-1, 4}) due(op + " " + n + "; go 1", "1 0");
        }
        for (String op : "setarg setloc".split(" ")) {
            for (int n = op.equals("setarg") ? 1 : 0; n <= 3; n++) due("num 1; " + op + " " + n + "; go 2", "0 -1");
            for (int n : new int[] {-1, 4}) due("num 1; " + op + " " + n + "; go 2", "1 1");
        }
        due("num 9999; num -9999; go 2", "0 -1");
        for (int n : new int[] {MIN, -10000, 10000, MAX}) due("num " + n + "; go 1", "1 0");
    }

    private static void numbersOfPlaces() {
        world();
        for (String op : "go if ifnot leave".split(" ")) {
            for (int n : new int[] {MIN, -1, 3, 4, 40, MAX}) due("num 1; " + op + " " + n + "; go 2", "1 1");
        }
        due("go 2; go 2; go 0", "0 -1");
        due("leave 2; go 2; leave 1", "0 -1");
        due("num 1; if 2; go 2", "0 -1");
        due("num 1; pop; num 0; ifnot 0; go 4", "0 -1");
        due("nop; ".repeat(38) + "go 39; go 0", "0 -1");
        due("nop; ".repeat(38) + "go 40; go 0", "1 38");
        due("nop; ".repeat(39) + "go 39", "0 -1");
        due("nop; ".repeat(40), "6 39");
    }

    private static void numbersOfExprs() {
        world();
        String ops = "make box unbox unboxa cast isa row at put atp load store init invoke";
        for (String op : ops.split(" ")) {
            for (int x : new int[] {MIN, -1, c.exprs(), MAX, g4ofInt, 3, g4}) due(op + " " + x + "; go 1", "1 0");
        }
        for (String op : "box unboxa isa row at put atp load store init".split(" ")) due(op + " " + place + "; go 1", "1 0");
        for (int x : new int[] {0, 3, s1, i2, d6, rowOfInt, place}) due("make " + x + "; go 1", "1 0");
        for (int x : new int[] {1, 2, o0, i2, d6, rowOfInt, place}) due("null; unbox " + x + "; go 2", "1 1");
        for (int x : new int[] {0, 3, s1, place}) due("null; cast " + x + "; go 2", "1 1");
        for (int x : new int[] {1, 2, o0, i2, d6, rowOfInt, g4of3}) due("null; cast " + x + "; go 2", "0 -1");
        for (int x : new int[] {0, 1, 2, o0, s1, i2, rowOfInt, place, g4of3}) due("null; num 1; invoke " + x + "; go 3", "1 2");
        due("null; invoke " + d7 + "; go 2", "1 1");
        due("bind 6 " + d7 + "; go 1", "1 0");
        int d = method(7, 0, 2, -1, "");
        due("null; invoke " + d7 + "; go 2", "0 -1");
        due("bind 6 " + d7 + "; go 1", "3 0");
        Due.is("6 the METHOD came last", d, c.methods() - 1);
    }

    private static void numbersOfMembers() {
        world();
        for (String op : "call callv callon bind".split(" ")) {
            int x = op.equals("callon") ? i2 : op.equals("bind") ? d6 : o0;
            for (int k : new int[] {MIN, -1, c.methods(), MAX}) due(op + " " + k + " " + x + "; go 1", "1 0");
            int with = op.equals("callon") ? 0 : op.equals("bind") ? 6 : 3;
            for (int y : new int[] {MIN, -1, c.exprs(), MAX, 0, 1, 3, rowOfInt, s1, o3, g4, g4ofInt}) due(op + " " + with + " " + y + "; go 1", "1 0");
        }
        for (String op : "get set getp gets sets getsp".split(" ")) {
            boolean isStatic = op.startsWith("gets") || op.equals("sets");
            for (int f : new int[] {MIN, -1, 5, MAX}) {
                for (int x : new int[] {o0, s1, g4of3}) due(op + " " + f + " " + x + "; go 1", "1 0");
            }
            int f = isStatic ? 1 : 0;
            for (int x : new int[] {MIN, -1, c.exprs(), MAX, 0, 1, 3, rowOfInt, s1, o3, g4, g4ofInt}) due(op + " " + f + " " + x + "; go 1", "1 0");
            due(op + " " + (1 - f) + " " + o0 + "; go 1", "1 0");
            due(op + " " + (isStatic ? 4 : 3) + " " + g4ofInt + "; go 1", "1 0");
        }
        due("gets 4 " + g4of3 + "; go 1", "0 -1");
        // "call" of what is of an INTERFACE or DELEGATE, "callv" of what is STATIC or of a STRUCT, "callon" of what is of no INTERFACE.
        due("arg 1; call 0 " + i2 + "; go 2", "1 1");
        due("null; num 1; call 5 " + d6 + "; go 3", "1 2");
        due("num 1; callv 6 " + o0 + "; go 2", "1 1");
        due("locp 2; callv 2 " + s1 + "; go 2", "1 1");
        due("null; num 1; callv 5 " + d6 + "; go 3", "1 2");
        due("argp 1; callon 1 " + o3 + "; go 2", "1 1");
        due("locp 2; callon 2 " + s1 + "; go 2", "1 1");
        // "bind" of what is of an INTERFACE, DELEGATE or STRUCT; of a STATIC one of a STRUCT.
        due("arg 1; bind 0 " + d6 + "; go 2", "1 1");
        due("null; bind 5 " + d6 + "; go 2", "1 1");
        due("locp 2; bind 2 " + d6 + "; go 2", "1 1");
        int s = method(1, 9, 0, 0, "num 1; ret", 0);
        due("bind " + s + " " + d6 + "; go 1", "0 -1");
        int g = method(4, 9, 0, 0, "num 1; ret", 0);
        due("bind " + g + " " + d6 + "; go 1", "1 0");
        int own = method(4, 9, 1, 0, "num 1; ret", 0);
        due("make " + g4of3 + "; bind " + own + " " + d6 + "; go 2", "0 -1");
    }

    private static void nears() {
        world();
        int r = method(0, 8, 0, place, "", place, o0);
        c.local(r, 0);
        c.local(r, s1);
        m = r;
        due("arg 0; ret", "0 -1");
        due("locp 0; ret", "7 1");
        due("locp 1; getp 2 " + s1 + "; ret", "7 2");
        due("locp 0; setarg 0; arg 0; ret", "7 1");
        due("arg 0; setarg 0; arg 0; ret", "0 -1");
        due("arg 1; getp 0 " + o0 + "; ret", "0 -1");
        due("getsp 1 " + o0 + "; ret", "0 -1");
        due("null; unbox 0; ret", "0 -1");
        due("null; num 0; atp 0; ret", "0 -1");
        due("null; unbox " + s1 + "; getp 2 " + s1 + "; ret", "0 -1");
        due("arg 0; call 4 " + o0 + "; ret", "0 -1");
        due("locp 0; call 4 " + o0 + "; ret", "7 2");
        due("locp 0; call 4 " + o0 + "; call 4 " + o0 + "; ret", "7 3");
        due("locp 0; load 0; pop; arg 0; ret", "0 -1");
        // A PLACE that is NEAR may be what a METHOD is given, what is loaded, stored to, popped.
        due("locp 0; num 1; store 0; locp 0; init 0; locp 0; pop; arg 0; ret", "0 -1");
        // One of two that are given.
        int two = method(0, 8, 0, place, "arg 0; ret", place, place);
        due("arg 0; arg 0; call " + two + " " + o0 + "; ret", "0 -1");
        due("arg 0; locp 0; call " + two + " " + o0 + "; ret", "7 3");
        due("locp 0; arg 0; call " + two + " " + o0 + "; ret", "7 3");
        // 3 ahead of 7, 2 ahead of 3.
        due("locp 1; ret", "3 1");
        due("locp 1; setarg 0; arg 0; ret", "3 1");
        due("locp 0; locp 0; ret", "2 2");
        due("locp 0; setarg 1; arg 0; ret", "3 1");
        // THIS that is NEAR.
        int self = method(1, 8, 1, place, "arg 0; getp 2 " + s1 + "; ret");
        due("locp 1; call " + self + " " + s1 + "; ret", "7 2");
        due("null; unbox " + s1 + "; call " + self + " " + s1 + "; ret", "0 -1");
        int asked = c.type(2, false, -1, -1);
        int ix = c.expr(0, asked, 0);
        int im = method(asked, 8, 2, place, "");
        int st = c.type(1, false, -1, -1);
        int sx = c.expr(0, st, 0);
        c.implement(st, ix);
        method(st, 8, 2, place, "null; unbox 0; ret");
        c.local(m, sx);
        due("locp 2; callon " + im + " " + ix + "; ret", "7 2");
        due("null; unbox " + sx + "; callon " + im + " " + ix + "; ret", "0 -1");
    }

    /** Two ways to the place 5: with the first code, then (as it stands behind) with the other one. */
    private static String both(String one, String other) {
        return "num 1; if 4; " + one + "; go 5; " + other + "; go 5";
    }

    private static void together(String one, String other, String want) {
        String[] two = {one, other};
        for (int k = 0; k < 2; k++) {
            String code = both(two[k], two[1 - k]);
            if (want.equals("no")) {
                due(code, "4 5");
                Due.is("33 it stays as it was: " + code, c.state(m, 5), c.state(m, 3));
            } else {
                due(code, "0 -1");
                Due.is("33 together: " + code, c.state(m, 5), want);
            }
        }
    }

    private static void merges() {
        world();
        together("num 1", "num 2", "int");
        together("null", "null", "null");
        together("null", "arg 1", "t3");
        together("null", "loc 1", "t0");
        together("null", "make 1", "object");
        together("null", "num 1", "no");
        together("null", "loc 2", "no");
        together("null", "arg 2", "no");
        together("null", "locp 1", "no");
        together("num 1", "arg 1", "no");
        together("num 1", "loc 2", "no");
        together("num 1", "arg 2", "no");
        together("num 1", "make 1", "no");
        together("loc 2", "loc 2", "t1");
        together("loc 2", "arg 1", "no");
        together("loc 2", "locp 2", "no");
        together("arg 2", "arg 2", "int&");
        together("arg 2", "locp 0", "int&!");
        together("locp 0", "argp 0", "int&!");
        together("locp 0", "locp 1", "no");
        together("locp 1", "argp 1", "no");
        together("arg 2", "arg 1", "no");
        together("arg 1", "arg 1", "t3");
        together("arg 1", "loc 1", "t0");
        // Not as long: one more, one less.
        due("num 1; if 4; nop; go 5; num 1; go 5", "4 5");
        due("num 1; if 4; num 1; go 5; nop; go 5", "4 5");
        due("num 1; num 1; if 5; num 1; go 6; nop; go 6", "4 6");
        // What lies below has to go together, too.
        due("null; num 1; if 5; nop; go 7; pop; num 1; go 7", "4 7");
        due("null; num 1; if 5; nop; go 7; pop; arg 1; go 7", "0 -1");
        Due.is("33 what lies below", c.state(m, 7), "t3");
    }

    private static void mergesOfBases() {
        world();
        together("make " + f5, "make 2", "fault");
        together("make " + f5, "arg 1", "object");
        together("make 2", "make 1", "object");
        together("arg 1", "make 1", "object");
        int row3 = c.expr(2, o3, 0);
        int row0 = c.expr(2, o0, 0);
        m = method(0, 7, 0, -1, "", rowOfInt, row3, row0);
        for (int x : new int[] {i2, d6, o3, g4of3}) c.local(m, x);
        together("arg 0", "arg 0", "int[]");
        together("arg 0", "arg 1", "object");
        together("arg 1", "arg 2", "object");
        together("arg 0", "null", "int[]");
        together("arg 0", "loc 2", "object");
        together("loc 0", "loc 0", "t2");
        together("loc 0", "loc 2", "object");
        together("loc 0", "loc 1", "object");
        together("loc 1", "loc 1", "t6");
        together("loc 1", "arg 0", "object");
        together("loc 3", "loc 2", "object");
        together("loc 3", "null", "t4<t3>");
        together("loc 0", "num 1", "no");
        together("num 1", "loc 1", "no");
        // FOR ARGUMENTS: the BASES of one with another ARGUMENT are others.
        int h = c.type(0, true, -1, 1);
        int hInt = c.expr(1, h, 0);
        int hObject = c.expr(1, h, 1);
        int a = c.type(0, false, -1, hInt);
        int b = c.type(0, false, -1, hInt);
        int d = c.type(0, false, -1, hObject);
        int[] x = {c.expr(0, a, 0), c.expr(0, b, 0), c.expr(0, d, 0)};
        m = method(0, 7, 0, -1, "", x);
        together("arg 0", "arg 1", c.exprText(hInt));
        together("arg 0", "arg 2", "object");
        together("arg 0", "make " + hInt, c.exprText(hInt));
        together("arg 0", "make " + hObject, "object");
    }

    /** A STATE that changes is looked at again, and what is found then counts. */
    private static void again() {
        world();
        // The place 1 has a t3 at first, then a t0 comes from behind: it is no t3 any more.
        due("arg 1; dup; callv 1 " + o3 + "; pop; pop; loc 1; go 1", "3 2");
        Due.is("33 what it has become", c.state(m, 1), "t0");
        Due.is("33 and what came of it", c.state(m, 2), "t0 t0");
        due("arg 1; dup; get 0 " + o0 + "; pop; pop; loc 1; go 1", "0 -1");
        Due.is("33 through the whole round", Due.states(c, m), "; t0; t0 t0; t0 int; t0; ; t0");
        // NULL becomes a REFERENCE, and that another one.
        due("null; nop; pop; loc 1; go 1", "0 -1");
        Due.is("33 from NULL", Due.states(c, m), "; t0; t0; ; t0");
        due("null; nop; throw; loc 1; go 1", "0 -1");
        due("null; nop; num 1; if 5; throw; pop; loc 1; go 1", "3 4");
        // FAR becomes NEAR: what a METHOD gives may not be that any more.
        int r = method(0, 8, 0, place, "", place);
        c.local(r, 0);
        m = r;
        due("arg 0; num 1; if 4; ret; pop; locp 0; go 1", "7 3");
        Due.is("33 NEAR at the second time", Due.states(c, r), "; int&!; int&! int; int&!; int&!; ; int&!");
        // Each one just as often as it changes: a round that changes nothing ends it.
        world();
        due("null; num 1; if 6; pop; loc 1; go 1; pop; ret", "0 -1");
        Due.is("33 both ways", Due.states(c, m), "; t0; t0 int; t0; ; t0; t0; ");
        // The first one that waits: the ERROR is that of the smaller place.
        due("num 1; if 4; num 1; add; null; add", "2 3");
        due("num 1; ifnot 5; go 4; nop; add; null; add", "2 4");
        due("go 3; add; go 1; num 1; if 1; null; add", "2 1");
    }

    private static void empty() {
        world();
        Due.is("31 without an INSTRUCTION", error(""), "6 0");
        c.handler(m, 2, 0, 1, 1, 2);
        Due.is("31 8 ahead of 6", error(""), "8 0");
        c.unhandle(m);
        due("nop", "6 0");
        due("num 1; pop; nop", "6 2");
        due("num 1; if 0", "6 1");
        due("ret", "0 -1");
        due("go 0", "0 -1");
        Due.is("33 the empty STATE", c.state(m, 0), "");
        due("go 1; ret; nop", "0 -1");
        Due.is("33 no STATE", c.state(m, 2), "-");
        // 6 for the next one ahead of 5 and 4 for the other one; the other one is not looked at then.
        due("nop; num 1; if 1", "6 2");
        due("num 1; num 1; if 0; nop", "4 0");
    }

    /** Any numbers are told; those that are no EXPRESSIONS as "?". */
    private static void texts() {
        world();
        String withA = " num arg setarg loc setloc argp locp go if ifnot leave ";
        String withX = " make box unbox unboxa cast isa row at put atp load store init invoke ";
        String withBoth = " call callv callon bind get set getp gets sets getsp ";
        int last = c.exprs() - 1;
        c.code(m, 0, 0, 0);
        for (int op = 0; op < 58; op++) {
            String name = " " + Due.NAMES[op] + " ";
            for (int a : new int[] {MIN, -1, 0, last, last + 1, MAX}) for (int b : new int[] {MIN, -1, 0, last, last + 1, MAX}) {
                c.change(m, 0, op, a, b);
                String want = name.trim();
                if (withA.contains(name)) want += " " + a;
                if (withX.contains(name)) want += " " + text(a);
                if (withBoth.contains(name)) want += " " + a + " " + text(b);
                Due.is("29 " + want, c.codeText(m, 0), want);
            }
        }
        c.clear();
        c.type(0, false, -1, 1);
        m = c.method(0, 0, 0, -1);
        c.code(m, 21, 4, 0);
        Due.is("29 not yet", c.codeText(m, 0) + " " + c.error(m), "make ? 1");
        c.expr(0, 0, 0);
        Due.is("29 then", c.codeText(m, 0) + " " + c.error(m), "make t0 6");
    }

    private static String text(int x) {
        return x >= 0 && x < c.exprs() ? c.exprText(x) : "?";
    }

    /** Each call that tells of an ERROR finds it, whichever is asked first, and again as something is changed. */
    private static void asked() {
        String[] codes = {"ret", "nop; nop; add; ret", "num 1; ret", "nop", "go 7"};
        String[] want = {"0 -1", "2 2", "2 1", "6 0", "1 0"};
        String[] states = {"", "; ; ; -", "; int", "", ""};
        for (int first = 0; first < 4; first++) {
            world();
            for (int k = 0; k < codes.length; k++) {
                c.cut(m, c.ofMethod(m, 6));
                Due.write(c, m, codes[k]);
                String told = " asked as call " + first + " of " + codes[k];
                if (first == 1) Due.is("32" + told, c.errorPlace(m), Integer.parseInt(want[k].split(" ")[1]));
                if (first == 2) Due.is("33" + told, Due.states(c, m), states[k]);
                if (first == 3) Due.is("34" + told, c.isRight(), false);
                Due.is("31" + told, c.error(m) + " " + c.errorPlace(m), want[k]);
                Due.is("33" + told, Due.states(c, m), states[k]);
            }
        }
    }
}
