/** Promises 41 to 51: a walk; section 5 of the document: reach and room. */
public final class WalkTest {
    public static void main(String[] args) {
        noWalk();
        walk();
        step();
        stop();
        ofWalk();
        walkOut();
        ofFrame();
        values();
        valuesOfStructs();
        things();
        thingsOfFaults();
        boundCalls();
        reached();
        reachedByPlaces();
        reachedAfterTheEnd();
        room();
        roomOfOperands();
        pins();
        collect();
        limitOnTheWay();
        cutWalk();
        besidesRuns();
        Due.end("WalkTest");
    }

    /** t0, a CLASS of object with the EXPRESSION 4, and m0, STATIC, given an INT, with RESULT INT. */
    private static Cellruntime world(int... locals) {
        Cellruntime c = new Cellruntime();
        c.type(0, false, -1, 1);
        c.expr(0, 0, 0);
        c.method(0, 0, 0, 0);
        c.param(0, 0);
        for (int x : locals) c.local(0, x);
        return c;
    }

    private static void noWalk() {
        Cellruntime c = new Cellruntime();
        c.sample(2);
        Due.fails("42 no WALK", Due.STATE, () -> c.step(1));
        Due.fails("42 many ahead of it", Due.ARGUMENT, () -> c.step(0));
        Due.fails("44 no WALK", Due.STATE, () -> c.ofWalk(0));
        Due.fails("44 what ahead of it", Due.ARGUMENT, () -> c.ofWalk(9));
        Due.fails("45 no WALK", Due.STATE, () -> c.walkOut());
        Due.fails("46 no WALK", Due.STATE, () -> c.ofFrame(-1, 9));
        Due.fails("47 no WALK", Due.STATE, () -> c.holder(-1));
        Due.fails("48 no WALK", Due.STATE, () -> c.value(-1, 9, -1));
        Due.fails("49 no WALK", Due.STATE, () -> c.reached(0));
        Due.fails("50 no WALK", Due.STATE, () -> c.thing(1));
        Due.fails("51 no WALK", Due.STATE, () -> c.collect());
        Due.is("43 no WALK", c.stop(), 0);
    }

    private static void walk() {
        Cellruntime c = new Cellruntime();
        c.sample(1);
        Due.fails("41 no METHOD", Due.INDEX, () -> c.walk(4, 0, 0, 0));
        Due.fails("41 no METHOD below", Due.INDEX, () -> c.walk(-1, 0, 0, 0));
        Due.is("41 no ENTRY", c.walk(0, 0, 0, 0), -2);
        Due.is("41 none begins", c.stop(), 0);
        Due.is("41 walk(3)", c.walk(3, 6, 0, 0), 0);
        c.step(2);
        Due.is("41 no ENTRY, the other one stays", c.walk(1, 0, 0, 0) + " " + c.ofWalk(3), "-2 2");
        Due.is("41 instead of that", c.walk(3, 8, 0, 0), 0);
        Due.is("44 STEPS anew", c.ofWalk(3), 0);
        Due.is("48 what is given", c.value(0, 0, 0), "8");
        Due.is("44 one FRAME", c.ofWalk(5), 1);
        c.change(3, 0, 9, 0, 0);
        Due.is("41 not RIGHT", c.walk(3, 0, 0, 0), -3);
        Due.is("41 -2 ahead of -3", c.walk(2, 0, 0, 0), -2);
        Cellruntime d = world();
        d.param(0, 0);
        d.param(0, 0);
        Due.write(d, 0, "num 1; ret");
        d.walk(0, 5, -6, 7);
        Due.is("41 all three", d.value(0, 0, 0) + d.value(0, 0, 1) + d.value(0, 0, 2), "5-67");
    }

    private static void step() {
        Cellruntime c = new Cellruntime();
        c.sample(2);
        c.walk(0, 2, 0, 0);
        Due.fails("42 many 0", Due.ARGUMENT, () -> c.step(0));
        Due.fails("42 many 601", Due.ARGUMENT, () -> c.step(601));
        Due.is("42 one", c.step(1), 1);
        Due.is("42 four", c.step(4), 4);
        Due.is("46 in the BLOCK", c.ofFrame(0, 1), 5);
        Due.is("42 up to its END", c.step(600), 6);
        Due.is("42 behind it", c.step(600), 0);
        Due.is("44 it is DONE", c.ofWalk(1), 0);
    }

    private static void stop() {
        Cellruntime c = new Cellruntime();
        c.sample(2);
        c.walk(0, 2, 0, 0);
        Due.is("43 one", c.stop(), 1);
        Due.is("43 none", c.stop(), 0);
        Due.fails("43 there is none", Due.STATE, () -> c.ofWalk(0));
    }

    private static void ofWalk() {
        Cellruntime c = new Cellruntime();
        c.sample(5);
        c.walk(0, 2, 0, 0);
        Due.fails("44 what -1", Due.ARGUMENT, () -> c.ofWalk(-1));
        Due.fails("44 what 9", Due.ARGUMENT, () -> c.ofWalk(9));
        int[][] want = {{1, -1, 0, 0, 0, 1, 0, 0, 0}, {1, -1, 0, 5, 0, 1, 1, 6, 1}, {1, -1, 0, 45, 0, 1, 1, 13, 0}, {0, 0, 0, 48, 2, 0, 0, 0, 0}};
        int[] steps = {0, 5, 40, 600};
        for (int n = 0; n < 4; n++) {
            if (steps[n] > 0) c.step(steps[n]);
            if (n == 2) while (c.ofFrame(0, 1) < 29) c.step(1);
            for (int k = 0; k < 9; k++) if (k != 3 || n < 2) Due.is("44 ofWalk(" + k + ") behind " + steps[n], c.ofWalk(k), want[n][k]);
        }
        c.run(0, 0, 2, 0, 0);
        Due.is("44 STEPS as of a run", c.ofWalk(3), c.ofRun(2));
    }

    private static void walkOut() {
        Cellruntime c = new Cellruntime();
        c.sample(3);
        c.walk(2, -4, 0, 0);
        Due.is("45 nothing yet", c.walkOut(), "");
        StringBuilder told = new StringBuilder();
        String before = "";
        while (c.step(1) > 0) {
            if (!c.walkOut().equals(before)) told.append("[").append(c.walkOut()).append("]");
            before = c.walkOut();
        }
        Due.is("45 bit by bit", told.toString(), "[5][5 1][5 1 2]");
    }

    private static void ofFrame() {
        Cellruntime c = new Cellruntime();
        c.sample(4);
        c.walk(3, 5, 0, 0);
        Due.fails("46 no FRAME", Due.INDEX, () -> c.ofFrame(1, 9));
        Due.fails("46 no FRAME below", Due.INDEX, () -> c.ofFrame(-1, 0));
        Due.fails("46 what -1", Due.ARGUMENT, () -> c.ofFrame(0, -1));
        Due.fails("46 what 3", Due.ARGUMENT, () -> c.ofFrame(0, 3));
        Due.fails("47 no FRAME", Due.INDEX, () -> c.holder(1));
        Due.fails("47 no FRAME below", Due.INDEX, () -> c.holder(-1));
        c.step(10);
        Due.is("46 METHOD", c.ofFrame(0, 0), 3);
        Due.is("46 place", c.ofFrame(0, 1), 10);
        Due.is("46 entries", c.ofFrame(0, 2), 2);
        Due.is("47 HOLDER", c.holder(0), "t1");
        c.step(1);
        Due.is("46 of the one that is called", c.ofFrame(1, 0) + " " + c.ofFrame(1, 1) + " " + c.ofFrame(1, 2), "1 0 0");
        c.step(3);
        Due.is("46 its stack", c.ofFrame(1, 2), 2);
        c.step(600);
        Due.fails("46 none is left", Due.INDEX, () -> c.ofFrame(0, 0));
        Cellruntime d = new Cellruntime();
        d.sample(3);
        d.walk(2, 1, 0, 0);
        d.step(8);
        Due.is("47 with an ARGUMENT", d.holder(1), "t0<int>");
    }

    private static void values() {
        Cellruntime c = new Cellruntime();
        c.sample(1);
        c.walk(3, 7, 0, 0);
        c.step(9);
        Due.is("48 a PARAMETER", c.value(0, 0, 0), "7");
        Due.is("48 a LOCAL", c.value(0, 1, 0), "t0[]#1");
        Due.is("48 from the bottom", c.value(0, 2, 0) + " " + c.value(0, 2, 1) + " " + c.value(0, 2, 2), "t0[]#1 0 t1#2");
        Due.fails("48 no FRAME", Due.INDEX, () -> c.value(1, 9, 0));
        Due.fails("48 no FRAME below", Due.INDEX, () -> c.value(-1, 9, 0));
        Due.fails("48 what -1", Due.ARGUMENT, () -> c.value(0, -1, 99));
        Due.fails("48 what 3", Due.ARGUMENT, () -> c.value(0, 3, -1));
        Due.fails("48 no PARAMETER", Due.INDEX, () -> c.value(0, 0, 1));
        Due.fails("48 no PARAMETER below", Due.INDEX, () -> c.value(0, 0, -1));
        Due.fails("48 no LOCAL", Due.INDEX, () -> c.value(0, 1, 1));
        Due.fails("48 no entry", Due.INDEX, () -> c.value(0, 2, c.ofFrame(0, 2)));
        Cellruntime d = world(1, 0);
        Due.write(d, 0, "null; num -5; locp 0; locp 1; argp 0; pop; pop; pop; pop; pop; num 1; ret");
        d.walk(0, 9, 0, 0);
        d.step(5);
        Due.is("48 NULL and PLACES", d.value(0, 2, 0) + " " + d.value(0, 2, 1) + " " + d.value(0, 2, 2) + " " + d.value(0, 2, 3) + " " + d.value(0, 2, 4), "null -5 &null &0 &9");
        Due.is("48 LOCALS at first", d.value(0, 1, 0) + d.value(0, 1, 1), "null0");
    }

    private static void valuesOfStructs() {
        Cellruntime c = world();
        c.type(1, false, -1, -1);
        int s = c.expr(0, 1, 0);
        c.type(1, false, -1, -1);
        int u = c.expr(0, 2, 0);
        c.type(1, false, -1, -1);
        int none = c.expr(0, 3, 0);
        c.field(1, 0, false);
        c.field(1, 1, false);
        c.field(1, 0, true);
        c.field(2, 0, false);
        int in = c.field(2, s, false);
        c.local(0, u);
        c.local(0, none);
        Due.write(c, 0, "locp 0; getp " + in + " " + u + "; num 5; set 0 " + s + "; locp 0; getp " + in + " " + u + "; make 1; set 1 " + s + "; loc 0; box " + u
            + "; locp 0; loc 0; loc 1; pop; pop; pop; unboxa " + u + "; get " + in + " " + u + "; get 0 " + s + "; ret");
        c.walk(0, 0, 0, 0);
        Due.is("48 0 and NULL", c.value(0, 1, 0), "(0,(0,null))");
        Due.is("48 nothing in it", c.value(0, 1, 1), "()");
        c.step(13);
        Due.is("48 a STRUCT", c.value(0, 1, 0), "(0,(5,object#1))");
        Due.is("48 a BOX of one", c.value(0, 2, 0), "t2#2");
        Due.is("50 as a THING", c.thing(2), "<(0,(5,object#1))>");
        Due.is("48 a PLACE of one", c.value(0, 2, 1), "&(0,(5,object#1))");
        Due.is("48 on the stack", c.value(0, 2, 2) + c.value(0, 2, 3), "(0,(5,object#1))()");
        Due.is("44 CELLS: an object, a BOX of three", c.ofWalk(7), 2 + 5);
        c.step(600);
        Due.is("44 RESULT", c.ofWalk(4), 5);
    }

    private static void things() {
        Cellruntime c = world(1);
        c.type(0, true, -1, 4);
        int gT = c.expr(1, 1, 3);
        int gInt = c.expr(1, 1, 0);
        c.type(0, false, -1, gInt);
        int top = c.expr(0, 2, 0);
        c.field(2, 1, false);
        c.field(1, 3, false);
        c.field(0, 0, false);
        c.field(1, c.expr(2, 3, 0), false);
        c.field(0, 0, true);
        Due.write(c, 0, "make " + top + "; dup; num 7; set 2 4; dup; num 8; set 1 " + gInt + "; dup; dup; set 0 " + top + "; setloc 0; "
            + "num 3; row 0; num 0; row 1; num 5; box 0; make 1; pop; pop; pop; pop; num 1; ret");
        c.walk(0, 0, 0, 0);
        c.step(11);
        Due.is("50 from the last BASE up, by numbers", c.thing(1), "{7,8,null,t2#1}");
        Due.is("44 CELLS", c.ofWalk(7), 6);
        c.step(7);
        Due.is("48 texts", c.value(0, 2, 0) + " " + c.value(0, 2, 1) + " " + c.value(0, 2, 2) + " " + c.value(0, 2, 3), "int[]#2 object[]#3 int#4 object#5");
        Due.is("50 a ROW", c.thing(2), "[0,0,0]");
        Due.is("50 an empty ROW", c.thing(3), "[]");
        Due.is("50 a BOX", c.thing(4), "<5>");
        Due.is("50 an object with nothing", c.thing(5), "{}");
        Due.is("50 none such", c.thing(6) + c.thing(0) + c.thing(-1) + c.thing(Integer.MAX_VALUE), "----");
        Due.is("44 CELLS of all", c.ofWalk(7), 6 + 6 + 3 + 3 + 2);
        Due.is("20 its text", c.exprText(gT), "t1<T>");
    }

    private static void thingsOfFaults() {
        Cellruntime c = world(1, 1);
        c.type(0, false, -1, 2);
        int f = c.expr(0, 1, 0);
        c.field(1, 0, false);
        Due.write(c, 0, "make 2; setloc 0; make " + f + "; setloc 1; loc 1; cast " + f + "; num 6; setcode; loc 1; cast " + f + "; num 7; set 0 " + f + "; num 1; ret");
        c.walk(0, 0, 0, 0);
        c.step(12);
        Due.is("50 a FAULT", c.thing(1), "{0}");
        Due.is("50 CODE ahead of all", c.thing(2), "{6,7}");
        Due.is("44 CELLS", c.ofWalk(7), 3 + 4);
    }

    private static void boundCalls() {
        Cellruntime c = world();
        c.type(3, false, -1, -1);
        int d = c.expr(0, 1, 0);
        c.method(1, 0, 2, 0);
        c.param(1, 0);
        c.method(0, 7, 1, 0);
        c.param(2, 0);
        Due.write(c, 2, "arg 1; ret");
        Due.write(c, 0, "bind 0 " + d + "; make 4; bind 2 " + d + "; dup; num 3; invoke " + d + "; out; pop; pop; num 1; ret");
        c.walk(0, 0, 0, 0);
        c.step(3);
        Due.is("48 a BOUND CALL", c.value(0, 2, 0) + " " + c.value(0, 2, 1), "t1#1 t1#3");
        Due.is("50 without a target", c.thing(1), "m0()");
        Due.is("50 with one", c.thing(3), "m2(t0#2)");
        Due.is("44 CELLS", c.ofWalk(7), 5 + 2 + 5);
        c.step(3);
        Due.is("46 the FRAME that was bound", c.ofFrame(1, 0) + " " + c.value(1, 0, 0) + " " + c.value(1, 0, 1), "2 t0#2 3");
    }

    private static void reached() {
        Cellruntime c = world(1, 2);
        Due.write(c, 0, "make 1; pop; make 1; setloc 0; make 1; make 1; pop; make 2; setloc 1; pop; num 1; ret");
        c.walk(0, 0, 0, 0);
        c.step(9);
        Due.is("49 by rising numbers", c.reached(0) + " " + c.reached(1) + " " + c.reached(2) + " " + c.reached(3), "2 3 5 -1");
        Due.is("49 below 0", c.reached(-1), -1);
        Due.is("49 far beyond", c.reached(Integer.MAX_VALUE), -1);
        Due.is("50 one that is not REACHED", c.thing(1), "-");
        Due.is("44 how many", c.ofWalk(6) + " " + c.ofWalk(7), "3 7");
        c.step(1);
        Due.is("49 from the stack no more", c.reached(1), 5);
    }

    private static void reachedByPlaces() {
        Cellruntime c = world();
        c.field(0, 0, false);
        c.type(0, true, -1, 1);
        c.expr(1, 1, 3);
        int gO = c.expr(1, 1, 1);
        c.field(1, 3, true);
        Due.write(c, 0, "make 4; getp 0 4; num 5; box 0; unbox 0; num 2; row 1; num 1; atp 1; make 1; sets 1 " + gO + "; pop; pop; pop; num 1; ret");
        c.walk(0, 0, 0, 0);
        c.step(11);
        Due.is("48 PLACES in THINGS", c.value(0, 2, 0) + c.value(0, 2, 1) + c.value(0, 2, 2), "&0&5&null");
        Due.is("49 all that they lead to, and a STATIC", c.reached(0) + "" + c.reached(1) + c.reached(2) + c.reached(3) + c.reached(4), "1234-1");
        Due.is("51 a collection", c.collect(), 3 + 3 + 5 + 2);
        Due.is("48 they lead there still", c.value(0, 2, 0) + c.value(0, 2, 1) + c.value(0, 2, 2), "&0&5&null");
        Cellruntime d = world();
        d.type(1, false, -1, -1);
        int s = d.expr(0, 1, 0);
        d.field(1, 0, false);
        d.field(1, 1, false);
        d.local(0, s);
        Due.write(d, 0, "locp 0; make 1; set 1 " + s + "; loc 0; box " + s + "; num 2; row " + s + "; dup; num 1; loc 0; put " + s + "; locp 0; init " + s + "; nop; pop; num 1; "
            + "box 0; pop; pop; num 1; ret");
        d.walk(0, 0, 0, 0);
        d.step(14);
        Due.is("49 by a BOX and a ROW of STRUCTS", d.reached(0) + "" + d.reached(1) + d.reached(2) + d.thing(2) + d.thing(3), "123<(0,object#1)>[(0,null),(0,object#1)]");
        d.step(1);
        Due.is("49 by the BOX alone", d.reached(0) + "" + d.reached(1) + d.reached(2), "12-1");
        d.step(4);
        Due.is("49 by nothing", d.reached(0), -1);
        c.step(600);
        Due.is("49 STATICS behind the END", c.reached(0) + " " + c.reached(1), "4 -1");
    }

    private static void reachedAfterTheEnd() {
        Cellruntime c = world();
        Due.write(c, 0, "make 1; pin; make 2; throw");
        c.walk(0, 0, 0, 0);
        c.step(600);
        Due.is("44 UNCAUGHT", c.ofWalk(1), 1);
        Due.is("49 PINS and the FAULT", c.reached(0) + " " + c.reached(1) + " " + c.reached(2), "1 2 -1");
        Due.is("44 PINS", c.ofWalk(8), 1);
    }

    private static void room() {
        Cellruntime c = world(1, 1);
        c.limit(20);
        String[][] all = {
            {"num 12; row 0; setloc 0; num 1; row 0; pop; num 1; ret", "0 0 1 []"}, {"num 12; row 0; setloc 0; num 2; row 0; pop; num 1; ret", "0 0 1 []"},
            {"num 12; row 0; setloc 0; num 3; row 0; pop; num 1; ret", "1 5 0 []"},
            {"num 12; row 0; setloc 0; num 3; box 0; setloc 1; make 1; pop; num 1; ret", "0 0 1 []"},
            {"num 12; row 0; setloc 0; num 3; box 0; setloc 1; num 3; box 0; pop; num 1; ret", "1 5 0 []"},
            {"num 12; row 0; setloc 0; num 3; box 0; setloc 1; make 2; pop; num 1; ret", "1 5 0 []"},
            {"num 12; row 0; setloc 0; num 12; row 0; setloc 0; num 1; ret", "1 5 0 []"},
            {"num 12; row 0; setloc 0; null; setloc 0; num 12; row 0; setloc 0; num 1; ret", "0 0 1 []"},
        };
        for (String[] one : all) {
            c.cut(0, c.ofMethod(0, 6));
            Due.write(c, 0, one[0]);
            Due.is("37 room: " + one[0], Due.run(c, 0, 0, 0, 0), one[1]);
        }
        // FAULTS that INSTRUCTIONS throw always have room, also beyond LIMIT.
        c.cut(0, c.ofMethod(0, 6));
        Due.write(c, 0, "num 12; row 0; setloc 0; num 3; box 0; setloc 1; nop; num 12; row 0; pop; leave 15; cells; out; pop; leave 15; num 1; ret");
        c.handler(0, 0, 6, 11, 11, 15);
        Due.is("37 a FAULT beyond LIMIT", Due.run(c, 0, 0, 0, 0), "0 0 1 [21]");
    }

    /** The operands of what makes a THING are REACHED as it looks for room. */
    private static void roomOfOperands() {
        Cellruntime c = world();
        c.type(3, false, -1, -1);
        int d = c.expr(0, 1, 0);
        c.method(1, 0, 2, 0);
        c.method(0, 3, 1, 0);
        Due.write(c, 2, "num 4; ret");
        c.type(1, false, -1, -1);
        int s = c.expr(0, 2, 0);
        c.field(2, 1, false);
        c.local(0, s);
        c.field(0, c.expr(2, 0, 0), false);
        c.limit(20);
        String[][] all = {
            {"make 4; dup; num 9; row 0; set 1 4; bind 2 " + d + "; invoke " + d + "; ret", "0 0 4 []"},
            {"make 4; dup; num 10; row 0; set 1 4; bind 2 " + d + "; invoke " + d + "; ret", "1 5 0 []"},
            {"locp 0; num 12; row 0; set 0 " + s + "; loc 0; locp 0; init " + s + "; box " + s + "; pop; num 1; ret", "0 0 1 []"},
        };
        for (String[] one : all) {
            c.cut(0, c.ofMethod(0, 6));
            Due.write(c, 0, one[0]);
            Due.is("37 operands: " + one[0], Due.run(c, 0, 0, 0, 0), one[1]);
        }
        c.local(0, 1);
        c.cut(0, c.ofMethod(0, 6));
        Due.write(c, 0, "locp 0; num 12; row 0; set 0 " + s + "; loc 0; locp 0; init " + s + "; make 4; setloc 1; box " + s + "; pop; num 1; ret");
        Due.is("37 what lies in the STRUCT counts", Due.run(c, 0, 0, 0, 0), "1 5 0 []");
        c.cut(0, c.ofMethod(0, 6));
        Due.write(c, 0, "num 12; row 0; num 99; at 0; out; leave 10; pop; cells; out; leave 10; num 1; ret");
        c.handler(0, 0, 0, 6, 6, 10);
        Due.is("37 the operands of others are gone", Due.run(c, 0, 0, 0, 0), "0 0 1 [0]");
    }

    private static void pins() {
        Cellruntime c = world(1, 1);
        Due.write(c, 0, "null; pin; make 1; dup; pin; pin; make 2; pin; num 3; box 0; pin; make 1; pin; cells; out; unpin; unpin; cells; out; unpin; unpin; unpin; cells; ret");
        c.walk(0, 0, 0, 0);
        c.step(2);
        Due.is("44 NULL is no PIN", c.ofWalk(8), 0);
        c.step(4);
        Due.is("44 the same one twice", c.ofWalk(8), 2);
        c.step(5);
        Due.is("44 four", c.ofWalk(8), 4);
        c.step(2);
        Due.is("44 no fifth", c.ofWalk(8), 4);
        Due.is("49 three THINGS", c.reached(0) + " " + c.reached(1) + " " + c.reached(2) + " " + c.reached(3), "1 2 3 -1");
        Due.is("54 they lie where they lay", c.isSound(), true);
        c.step(3);
        Due.is("44 the last one goes", c.ofWalk(8) + " " + c.reached(0) + " " + c.reached(1) + " " + c.reached(2), "3 1 2 -1");
        c.step(600);
        Due.is("45 CELLS", c.walkOut(), "8 2");
        Due.is("44 RESULT", c.ofWalk(4) + " " + c.ofWalk(8), "0 0");
    }

    private static void collect() {
        Cellruntime c = world(1, 2);
        Due.write(c, 0, "num 4; row 0; pop; num 2; box 0; setloc 0; num 5; row 1; dup; pin; dup; num 1; make 4; put 1; loc 0; gc; pop; pop; cells; ret");
        c.walk(0, 0, 0, 0);
        c.step(14);
        String before = c.value(0, 1, 0) + c.value(0, 2, 0) + c.thing(2) + c.thing(3) + c.thing(4);
        Due.is("50 all of them", before, "int#2object[]#3<2>[null,t0#4,null,null,null]{}");
        Due.is("51 CELLS", c.collect(), 3 + 8 + 2);
        Due.is("51 nothing changes", c.value(0, 1, 0) + c.value(0, 2, 0) + c.thing(2) + c.thing(3) + c.thing(4), before);
        Due.is("51 no STEP", c.ofWalk(3), 14);
        Due.is("54 sound", c.isSound(), true);
        Due.is("51 again", c.collect(), 13);
        c.step(600);
        Due.is("44 RESULT", c.ofWalk(4), 13);
        Due.is("51 behind the END", c.collect(), 8 + 2);
    }

    private static void limitOnTheWay() {
        Cellruntime c = world(1);
        Due.write(c, 0, "num 12; row 0; setloc 0; num 12; row 0; len; ret");
        c.walk(0, 0, 0, 0);
        c.step(4);
        c.limit(20);
        c.step(600);
        Due.is("35 a WALK looks at it from there on", c.ofWalk(1) + " " + c.ofWalk(2), "1 5");
        c.walk(0, 0, 0, 0);
        c.step(4);
        c.limit(30);
        c.step(600);
        Due.is("35 there is room", c.ofWalk(1) + " " + c.ofWalk(4), "0 12");
    }

    private static void cutWalk() {
        Cellruntime c = world();
        c.method(0, 1, 0, -1);
        Due.write(c, 1, "make 1; pop; go 0");
        Due.write(c, 0, "num 5; call 1 4; ret");
        c.walk(0, 0, 0, 0);
        Due.is("42 all", c.step(600), 600);
        Due.is("44 CUT", c.ofWalk(0) + " " + c.ofWalk(1) + " " + c.ofWalk(2) + " " + c.ofWalk(3), "0 2 0 600");
        Due.is("44 its FRAMES stay", c.ofWalk(5) + " " + c.ofFrame(0, 1) + " " + c.value(0, 2, 0), "2 1 5");
        Due.is("42 no more", c.step(1), 0);
        Due.is("54 sound", c.isSound(), true);
        c.walk(0, 0, 0, 0);
        c.step(599);
        Due.is("44 ahead of the 600th", c.ofWalk(0), 1);
        Due.is("42 one more", c.step(9), 1);
    }

    /** Runs do not touch a WALK. */
    private static void besidesRuns() {
        Cellruntime c = new Cellruntime();
        c.sample(7);
        c.walk(3, 4, 0, 0);
        c.step(10);
        String before = c.holder(1) + c.holder(2) + c.value(2, 0, 0) + c.thing(1) + c.ofWalk(3);
        c.share(false);
        c.run(3, 1, 9, 0, 0);
        c.run(3, 0, 8, 0, 0);
        c.areSame(3, 2, 0, 0);
        Due.is("41 it stays as it is", c.holder(1) + c.holder(2) + c.value(2, 0, 0) + c.thing(1) + c.ofWalk(3), before);
        c.step(600);
        Due.is("45 OUT", c.walkOut() + " " + c.ofWalk(4), "2 5 4");
        Due.is("38 OUT of the run", c.out(), "2 9");
    }
}
