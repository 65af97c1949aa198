/** Section 4 of the document: handlers in two goes, "leave", what is forgotten; by both WAYS. */
public final class FaultsTest {
    private static Cellruntime c;

    public static void main(String[] args) {
        catches();
        catchesByType();
        filters();
        testsSeeSlots();
        testThatThrows();
        testInTest();
        testWithoutFrame();
        finallyAndRescue();
        order();
        leaves();
        leavesInside();
        framesBetween();
        uncaught();
        codeAtTheEnd();
        throwAgain();
        finallyThrows();
        comesBack();
        placesOfFrames();
        reachedFaults();
        forgotten();
        testEnded();
        Due.end("FaultsTest");
    }

    /** t0 CLASS of object (4), t1 (5) and t2 (6) FAULTS, t2 above t1; m0 STATIC, given an INT, with RESULT INT and a LOCAL of INT and of OBJECT. */
    private static void world() {
        c = new Cellruntime();
        c.type(0, false, -1, 1);
        c.expr(0, 0, 0);
        c.type(0, false, -1, 2);
        c.expr(0, 1, 0);
        c.type(0, false, -1, 5);
        c.expr(0, 2, 0);
        entry();
    }

    private static int entry() {
        int m = c.method(0, 0, 0, 0);
        c.param(m, 0);
        c.local(m, 0);
        c.local(m, 1);
        return m;
    }

    private static void write(int m, String code, int[]... handlers) {
        while (c.unhandle(m) >= 0) c.ofMethod(m, 7);
        c.cut(m, c.ofMethod(m, 6));
        Due.write(c, m, code);
        for (int[] h : handlers) {
            int n = c.handler(m, h[0], h[1], h[2], h[3], h[4]);
            if (h.length > 5) c.handles(m, n, h[5]);
        }
        Due.is("31 error of " + code, c.error(m) + " " + c.errorPlace(m), "0 -1");
    }

    private static int[] h(int... all) {
        return all;
    }

    private static void due(String told, int a, String want) {
        Due.is("37 " + told, Due.run(c, 0, a, 0, 0), want);
    }

    private static void catches() {
        world();
        write(0, "num 1; out; num 5; arg 0; div; setloc 0; leave 12; codeof; out; num 77; setloc 0; leave 12; loc 0; ret", h(0, 0, 7, 7, 12));
        due("nothing is thrown", 5, "0 0 1 [1]");
        due("it is caught", 0, "0 0 77 [1 4]");
    }

    private static void catchesByType() {
        world();
        // 0: by the number a FAULT of t1, of t2, of FAULT itself, or none.
        write(0, "arg 0; ifnot 9; arg 0; num 1; eq; ifnot 12; make 5; throw; nop; leave 24; nop; nop; arg 0; num 2; eq; ifnot 18; make 6; throw; make 2; throw; "
            + "pop; num 6; out; leave 24; num 0; ret; nop; pop; num 5; out; leave 24; pop; num 2; out; leave 24",
            h(0, 0, 20, 20, 24, 6), h(0, 0, 20, 27, 31, 5), h(0, 0, 20, 31, 35));
        due("nothing", 0, "0 0 0 []");
        due("t1", 1, "0 0 0 [5]");
        due("t2", 2, "0 0 0 [6]");
        due("FAULT", 3, "0 0 0 [2]");
        c.unhandle(0);
        due("t1 by one for t1", 1, "0 0 0 [5]");
        due("FAULT by none", 3, "1 0 0 []");
        write(0, "make 6; throw; pop; num 5; out; leave 6; num 0; ret", h(0, 0, 2, 2, 6, 5));
        due("t2 by one for t1", 0, "0 0 0 [5]");
    }

    private static void filters() {
        world();
        // TEST: the CODE of the FAULT is arg 0.
        String code = "make 2; dup; num 3; setcode; throw; codeof; dup; out; arg 0; eq; endfilter; codeof; num 100; add; setloc 0; leave 16; loc 0; ret";
        write(0, code, h(1, 0, 5, 11, 16, 5));
        due("the TEST tells 1", 3, "0 0 103 [3]");
        due("the TEST tells 0", 4, "1 3 0 [3]");
        code = "make 2; throw; pop; num 1; out; num 0; endfilter; pop; leave 18; pop; num 2; out; num -5; endfilter; codeof; out; leave 18; nop; num 9; ret";
        write(0, code, h(1, 0, 2, 7, 9, 2), h(1, 0, 2, 14, 17, 9));
        due("the second one", 0, "0 0 9 [1 2 0]");
        // A CATCH that comes first: no TEST.
        code = "make 2; throw; pop; leave 11; pop; num 1; out; num 1; endfilter; pop; leave 11; num 9; ret";
        write(0, code, h(0, 0, 2, 2, 4), h(1, 0, 2, 9, 11, 4));
        due("the CATCH is first", 0, "0 0 9 []");
        write(0, code, h(1, 0, 2, 9, 11, 4), h(0, 0, 2, 2, 4));
        due("the FILTER is first", 0, "0 0 9 [1]");
    }

    private static void testsSeeSlots() {
        world();
        String code = "num 5; setloc 0; make 2; throw; pop; loc 0; num 1; add; setloc 0; num 40; setarg 0; locp 0; load 0; out; num 1; endfilter; pop; leave 18; "
            + "loc 0; arg 0; add; ret";
        write(0, code, h(1, 0, 4, 16, 18, 4));
        due("PARAMETERS and LOCALS are no copies", 1, "0 0 46 [6]");
        c.walk(0, 1, 0, 0);
        c.step(5);
        Due.is("44 a FRAME for the TEST", c.ofWalk(5), 2);
        Due.is("46 its METHOD", c.ofFrame(1, 0), 0);
        Due.is("46 its place", c.ofFrame(1, 1), 5);
        Due.is("46 below where it was thrown", c.ofFrame(0, 1), 3);
        Due.is("46 the stack below is empty", c.ofFrame(0, 2), 0);
        Due.is("47 its HOLDER", c.holder(1), "t0");
        Due.is("48 its LOCALS", c.value(1, 1, 0), "5");
        c.step(6);
        Due.is("48 set in both", c.value(1, 1, 0) + c.value(0, 1, 0) + c.value(1, 0, 0) + c.value(0, 0, 0), "664040");
        c.step(1);
        Due.is("48 a PLACE of one", c.value(1, 2, 0), "&6");
        Due.is("54 it is sound", c.isSound(), true);
    }

    private static void testThatThrows() {
        world();
        // The TEST divides by 0: it told 0. Its own FINALLY is done at once, the one around it just as "leave" goes by it.
        write(0, "make 2; throw; pop; num 1; num 0; div; setloc 0; leave 11; num 7; out; endfinally; num 1; endfilter; pop; num 99; out; leave 25; "
            + "codeof; num 50; add; out; leave 25; num 8; out; endfinally; num 3; ret",
            h(2, 3, 8, 8, 11), h(1, 0, 2, 13, 17, 2), h(0, 0, 2, 17, 22), h(2, 0, 22, 22, 25));
        due("a TEST that throws", 0, "0 0 3 [7 50 8]");
        c.change(0, 4, 1, 1, 0);
        due("one that does not", 0, "0 0 3 [7 99 8]");
        Due.is("39 STEPS of it", c.ofRun(2), 22);
    }

    private static void testInTest() {
        world();
        // In the TEST a TRY with a FILTER of its own, and a CATCH that is not seen from there.
        String code = "make 5; throw; "
            + "pop; make 6; throw; codeof; out; num 1; endfilter; pop; num 2; out; leave 14; nop; num 1; endfilter; pop; num 3; out; leave 20; num 4; ret";
        write(0, code, h(1, 3, 5, 9, 13, 5), h(1, 0, 2, 16, 20, 2));
        due("a TEST in a TEST", 0, "0 0 4 [0 2 3]");
        code = "make 5; throw; pop; make 6; throw; codeof; out; num 0; endfilter; pop; num 2; out; leave 14; nop; num 1; endfilter; pop; num 3; out; leave 24; "
            + "pop; num 5; out; leave 24; num 4; ret";
        write(0, code, h(1, 3, 5, 9, 13, 5), h(1, 0, 2, 16, 20, 2), h(0, 0, 2, 20, 24, 5));
        due("the FAULT of a TEST sees no CATCH around it", 0, "0 0 4 [0 5]");
    }

    private static void testWithoutFrame() {
        world();
        int m = c.method(0, 1, 0, 0);
        c.param(m, 0);
        // Calls itself as often as it is told, then throws; each FRAME would test it.
        write(m, "arg 0; ifnot 9; arg 0; num 1; sub; call " + m + " 4; pop; nop; leave 20; make 2; throw; nop; nop; pop; arg 0; out; num 1; endfilter; pop; leave 20; num 6; ret",
            h(1, 0, 11, 18, 20, 13));
        write(0, "arg 0; call " + m + " 4; ret");
        due("with 8 FRAMES no TEST is done", 6, "1 0 0 []");
        due("with 7 the one on top", 5, "0 0 6 [0]");
    }

    private static void finallyAndRescue() {
        world();
        String code = "arg 0; if 4; leave 12; nop; make 5; throw; num 1; out; endfinally; num 2; out; endfinally; num 3; ret; pop; leave 12";
        write(0, code, h(2, 0, 6, 6, 9), h(3, 0, 9, 9, 12), h(0, 0, 12, 14, 16));
        due("a FAULT does both", 1, "0 0 3 [1 2]");
        due("\"leave\" does the FINALLY", 0, "0 0 3 [1]");
        write(0, code, h(3, 0, 6, 6, 9), h(2, 0, 9, 9, 12), h(0, 0, 12, 14, 16));
        due("likewise the other way", 1, "0 0 3 [1 2]");
        due("and \"leave\"", 0, "0 0 3 [2]");
    }

    /** First all TESTS, then all FINALLYS, then the BLOCK. */
    private static void order() {
        world();
        String code = "nop; nop; make 5; throw; num 1; out; endfinally; nop; nop; pop; num 2; out; num 1; endfilter; pop; num 3; out; leave 19; nop; num 4; ret";
        write(0, code, h(2, 2, 4, 4, 7), h(1, 0, 7, 14, 18, 9));
        due("the TEST ahead of the BLOCK inside", 0, "0 0 4 [2 1 3]");
        Due.is("39 STEPS", c.ofRun(2), 18);
    }

    private static void leaves() {
        world();
        String code = "nop; nop; nop; leave 16; num 1; out; endfinally; leave 16; num 2; out; endfinally; leave 16; num 3; out; endfinally; nop; num 9; ret";
        write(0, code, h(2, 2, 4, 4, 7), h(2, 1, 8, 8, 11), h(2, 0, 12, 12, 15));
        due("from the inside out", 0, "0 0 9 [1 2 3]");
        c.change(0, 3, 48, 7, 0);
        due("to where just one is between", 0, "0 0 9 [1 2 3]");
        c.change(0, 11, 16, 11, 0);
        c.change(0, 7, 48, 11, 0);
        due("with two between", 0, "2 0 0 [1 2]");
    }

    private static void leavesInside() {
        world();
        // A BLOCK of a FINALLY in which there is a TRY with a FINALLY of its own, that is left inside.
        String code = "nop; leave 12; num 1; out; nop; leave 9; num 2; out; endfinally; num 3; out; endfinally; num 4; ret";
        write(0, code, h(2, 0, 2, 2, 12), h(2, 4, 6, 6, 9));
        due("\"leave\" in a BLOCK that a \"leave\" does", 0, "0 0 4 [1 2 3]");
        c.change(0, 0, 2, 0, 0);
        c.change(0, 1, 47, 0, 0);
        due("in a BLOCK that a FAULT does", 0, "1 1 0 [1 2 3]");
    }

    private static void framesBetween() {
        world();
        int m = c.method(0, 1, 0, 0);
        c.param(m, 0);
        write(m, "arg 0; ifnot 8; arg 0; num 1; sub; call " + m + " 4; pop; leave 13; make 5; throw; arg 0; out; endfinally; num 0; ret", h(2, 0, 10, 10, 13));
        write(0, "num 3; arg 0; call " + m + " 4; add; setloc 0; leave 11; codeof; out; num 50; setloc 0; leave 11; loc 0; ret", h(0, 0, 6, 6, 11));
        due("each FRAME does its FINALLY", 3, "0 0 50 [0 1 2 3 0]");
        c.walk(0, 2, 0, 0);
        c.step(17);
        Due.is("44 FRAMES as it is thrown", c.ofWalk(5), 4);
        c.step(1);
        Due.is("46 the FAULT is on the stack", c.ofFrame(3, 1) + " " + c.ofFrame(3, 2), "9 1");
        c.step(1);
        Due.is("46 then it is in its BLOCK", c.ofWalk(5) + " " + c.ofFrame(3, 1) + " " + c.ofFrame(3, 2), "4 10 0");
        c.step(3);
        Due.is("44 a FRAME went", c.ofWalk(5) + " " + c.ofFrame(2, 1), "3 10");
        Due.is("49 the FAULT is REACHED", c.reached(0), 1);
        Due.is("50 as a text", c.thing(1), "{0}");
        Due.is("42 up to its END", c.step(600) > 0, true);
        Due.is("50 it is gone", c.thing(1), "-");
        write(m, "arg 0; ifnot 4; make 2; throw; num 1; ret");
        write(0, "num 3; arg 0; call " + m + " 4; add; ret");
        due("none", 1, "1 0 0 []");
        due("nothing thrown", 0, "0 0 4 []");
    }

    private static void uncaught() {
        world();
        write(0, "nop; make 6; dup; num 33; setcode; throw; num 1; out; endfinally", h(2, 0, 6, 6, 9));
        due("with a FINALLY", 0, "1 33 0 [1]");
        c.walk(0, 0, 0, 0);
        c.step(6);
        Due.is("44 it goes on", c.ofWalk(0) + " " + c.ofWalk(2), "1 0");
        c.step(600);
        Due.is("44 END, CODE, FRAMES", c.ofWalk(1) + " " + c.ofWalk(2) + " " + c.ofWalk(5), "1 33 0");
        Due.is("44 STEPS", c.ofWalk(3), 9);
        Due.is("49 the FAULT is REACHED still", c.reached(0) + " " + c.reached(1), "1 -1");
        Due.is("50 its text", c.thing(1), "{33}");
        Due.is("44 its CELLS", c.ofWalk(7), 3);
        Due.is("51 behind the END", c.collect(), 3);
        Due.is("54 it is sound", c.isSound(), true);
    }

    private static void codeAtTheEnd() {
        world();
        write(0, "make 5; dup; setloc 1; throw; loc 1; cast 2; num 44; setcode; endfinally", h(2, 0, 4, 4, 9));
        due("the CODE as the run ends", 0, "1 44 0 []");
    }

    private static void throwAgain() {
        world();
        write(0, "num 7; num 0; div; setloc 0; leave 12; codeof; out; null; throw; codeof; out; leave 12; num 3; ret", h(0, 0, 5, 5, 9), h(0, 0, 9, 9, 12));
        due("what the BLOCK of a CATCH throws", 0, "0 0 3 [4 1]");
        write(0, "num 7; num 0; div; setloc 0; leave 11; dup; pop; throw; codeof; out; leave 11; num 3; ret", h(0, 0, 5, 5, 8), h(0, 0, 8, 8, 11));
        due("the same FAULT again", 0, "0 0 3 [4]");
    }

    /** A BLOCK that a FAULT does throws another one: the first one is forgotten. */
    private static void finallyThrows() {
        world();
        write(0, "make 5; throw; num 1; out; num 1; num 0; div; out; endfinally; codeof; out; leave 14; nop; nop; num 3; ret",
            h(2, 0, 2, 2, 9), h(0, 0, 9, 9, 12));
        due("in the same METHOD", 0, "0 0 3 [1 4]");
        write(0, "make 5; throw; num 1; out; num 1; num 0; div; out; endfinally", h(2, 0, 2, 2, 9));
        due("for none", 0, "1 4 0 [1]");
        write(0, "leave 14; nop; num 1; out; num 1; num 0; div; out; endfinally; codeof; out; leave 14; nop; nop; num 3; ret",
            h(2, 0, 2, 2, 9), h(0, 0, 9, 9, 12));
        due("a \"leave\" is forgotten", 0, "0 0 3 [1 4]");
        // Caught inside of the BLOCK: the first one goes on.
        write(0, "make 5; throw; nop; num 1; num 0; div; out; leave 11; codeof; out; leave 11; endfinally; codeof; num 60; add; out; leave 17; num 3; ret",
            h(2, 0, 2, 2, 12), h(0, 2, 8, 8, 11), h(0, 0, 12, 12, 17));
        due("caught in the BLOCK", 0, "0 0 3 [4 60]");
    }

    /** A BLOCK in a FRAME above is left for a CATCH of that FRAME: the FRAMES below go on where they were. */
    private static void comesBack() {
        world();
        int m = c.method(0, 1, 0, 0);
        write(m, "make 5; throw; make 6; throw; endfinally; codeof; out; leave 8; num 20; ret", h(2, 0, 2, 2, 5), h(0, 0, 5, 5, 8, 6));
        write(0, "num 3; num 4; call " + m + " 4; add; add; setloc 0; leave 13; codeof; out; num 99; setloc 0; leave 13; nop; loc 0; ret", h(0, 0, 7, 7, 12, 5));
        Due.is("37 the stack below stays", Due.run(c, 0, 0, 0, 0), "0 0 27 [0]");
        c.walk(0, 0, 0, 0);
        c.step(6);
        Due.is("46 in the BLOCK", c.ofFrame(1, 1), 2 + 1);
        Due.is("46 the stack below", c.ofFrame(0, 2), 2);
        Due.is("48 its values", c.value(0, 2, 0) + " " + c.value(0, 2, 1), "3 4");
    }

    private static void placesOfFrames() {
        world();
        // The second go stands where the FAULT came, not where the BLOCK ended: the HANDLER around both is done once.
        write(0, "nop; make 5; throw; num 1; out; endfinally; nop; num 2; out; endfinally; pop; num 5; out; leave 14; num 3; ret",
            h(2, 0, 3, 3, 6), h(2, 0, 7, 7, 10), h(0, 0, 10, 10, 14));
        due("each once", 0, "0 0 3 [1 2 5]");
        write(0, "make 5; throw; num 1; out; endfinally; num 2; out; endfinally; pop; num 5; out; leave 12; num 3; ret",
            h(3, 0, 2, 2, 5), h(3, 0, 5, 5, 8), h(0, 0, 8, 8, 12));
        due("RESCUES", 0, "0 0 3 [1 2 5]");
    }

    private static void reachedFaults() {
        world();
        // 3 CELLS for each FAULT: thrown, in a BLOCK, meant, caught, gone.
        write(0, "make 5; throw; cells; out; endfinally; cells; out; pop; cells; out; leave 11; cells; ret", h(2, 0, 2, 2, 5), h(0, 0, 5, 5, 11));
        due("CELLS of what is thrown", 0, "0 0 0 [3 3 0]");
        write(0, "make 5; throw; pop; cells; out; num 1; endfilter; pop; cells; out; leave 11; cells; ret", h(1, 0, 2, 7, 11, 2));
        due("CELLS in a TEST", 0, "0 0 0 [3 0]");
        write(0, "null; throw; pop; make 5; throw; cells; out; endfinally; nop; num 1; endfilter; pop; cells; out; leave 15; nop; cells; ret",
            h(2, 3, 5, 5, 8), h(1, 0, 2, 11, 15, 2));
        due("two at once", 0, "1 1 0 [6]");
        c.walk(0, 0, 0, 0);
        c.step(600);
        Due.is("49 the one that was thrown in the TEST is gone", c.reached(0) + " " + c.reached(1), "1 -1");
    }

    private static void forgotten() {
        world();
        write(0, "make 5; throw; cells; out; make 6; throw; endfinally; cells; out; pop; cells; out; leave 13; cells; ret", h(2, 0, 2, 2, 7), h(0, 0, 7, 7, 13, 6));
        due("the first one, as the second one is caught", 0, "0 0 0 [3 3 0]");
        // Till then both are there: a FINALLY inside of the BLOCK is done first, one around it forgets.
        write(0, "make 5; throw; nop; make 6; throw; cells; out; endfinally; nop; endfinally; cells; out; endfinally; pop; cells; out; leave 17; cells; ret",
            h(2, 0, 2, 2, 10), h(2, 3, 5, 5, 8), h(2, 0, 10, 10, 13), h(0, 0, 13, 13, 17));
        due("as another BLOCK is done", 0, "0 0 0 [6 3 0]");
        int m = c.method(0, 1, 0, -1);
        write(m, "make 5; throw; make 6; throw; endfinally", h(2, 0, 2, 2, 5));
        write(0, "call " + m + " 4; leave 8; cells; out; pop; cells; out; leave 8; cells; ret", h(0, 0, 2, 2, 8));
        due("as its FRAME goes", 0, "0 0 0 [3 0]");
    }

    private static void testEnded() {
        world();
        int m = c.method(0, 1, 0, 0);
        write(m, "make 6; throw; cells; out; endfinally", h(2, 0, 2, 2, 5));
        write(0, "make 5; throw; pop; call " + m + " 4; endfilter; pop; leave 11; cells; out; pop; leave 11; cells; ret", h(1, 0, 2, 5, 7, 2), h(0, 0, 2, 7, 11));
        due("a FAULT from above a TEST", 0, "0 0 0 [6 3]");
        write(0, "make 5; throw; pop; num 1; num 0; div; endfilter; pop; leave 13; cells; out; pop; leave 13; cells; ret", h(1, 0, 2, 7, 9, 2), h(0, 0, 2, 9, 13));
        due("a FAULT in a TEST", 0, "0 0 0 [3]");
    }
}
