/** Section 4 of the document, FAULTS at their edges: which HANDLER is meant, which BLOCKS are done, what is forgotten; by both WAYS. */
public final class FaultEdgesTest {
    private static final int CATCH = 0, FILTER = 1, FINALLY = 2, RESCUE = 3;
    private static final int MIN = Integer.MIN_VALUE, MAX = Integer.MAX_VALUE;
    private static Cellruntime c;

    public static void main(String[] args) {
        edgesOfTrys();
        edgesOfLeaves();
        fourHandlers();
        tests();
        testsGoOn();
        testsOfFrames();
        eightFrames();
        smallerNumbers();
        framesBelow();
        stacks();
        calls();
        catchesOfT();
        oldDuties();
        inBlocks();
        forgets();
        cutInside();
        throwsAgain();
        leads();
        Due.end("FaultEdgesTest");
    }

    /** t0 CLASS (4), t1 FAULT's (5), t2 above t1 (6); m0 STATIC of t0, given an INT, with RESULT INT, LOCALS INT and OBJECT. */
    private static void world() {
        c = new Cellruntime();
        c.type(0, false, -1, 1);
        c.expr(0, 0, 0);
        c.type(0, false, -1, 2);
        c.expr(0, 1, 0);
        c.type(0, false, -1, 5);
        c.expr(0, 2, 0);
        c.method(0, 0, 0, 0);
        c.param(0, 0);
        c.local(0, 0);
        c.local(0, 1);
    }

    private static int[] h(int... all) {
        return all;
    }

    private static void write(int m, String code, int[]... handlers) {
        while (c.unhandle(m) >= 0) c.ofMethod(m, 7);
        c.cut(m, c.ofMethod(m, 6));
        Due.write(c, m, code);
        for (int[] h : handlers) {
            int n = c.handler(m, h[0], h[1], h[2], h[3], h[4]);
            if (h.length > 5) c.handles(m, n, h[5]);
        }
        Due.is("31 error of " + code, c.error(m) + " " + c.errorPlace(m), "0 -1");
    }

    private static void due(String told, int a, String want) {
        Due.is("37 " + told, Due.run(c, 0, a, 0, 0), want);
    }

    /** What is thrown at the first and at the last INSTRUCTION of a TRY, one ahead of it and one behind it; also by a call there. */
    private static void edgesOfTrys() {
        world();
        int m = c.method(0, 1, 0, -1);
        write(m, "null; throw");
        int n = c.method(0, 1, 0, -1);
        write(n, "ret");
        // TRY has the places 2 to 4; of the places 1, 2, 3 and 5 one calls what throws.
        for (int at : new int[] {1, 2, 3, 5}) {
            StringBuilder code = new StringBuilder("nop; ");
            for (int p = 1; p <= 5; p++) code.append(p == 4 ? "leave 5; " : "call " + (p == at ? m : n) + " 4; ");
            write(0, code + "num 3; ret; pop; num 7; out; leave 6", h(CATCH, 2, 5, 8, 12));
            due("thrown at " + at, 0, at == 2 || at == 3 ? "0 0 3 [7]" : "1 1 0 []");
        }
        // By an INSTRUCTION itself.
        write(0, "num 1; pop; num 1; arg 0; div; pop; leave 11; codeof; out; leave 11; nop; num 3; ret", h(CATCH, 2, 7, 7, 10));
        due("\"div\" in it", 0, "0 0 3 [4]");
        due("nothing", 1, "0 0 3 []");
        write(0, "num 1; arg 0; div; pop; nop; nop; leave 11; codeof; out; leave 11; nop; num 3; ret", h(CATCH, 4, 7, 7, 10));
        due("\"div\" ahead of it", 0, "1 4 0 []");
        write(0, "nop; leave 2; num 1; arg 0; div; pop; go 11; codeof; out; leave 11; nop; num 3; ret", h(CATCH, 0, 2, 7, 10));
        due("\"div\" behind it", 0, "1 4 0 []");
    }

    /** A "leave" at the first and at the last INSTRUCTION of a TRY; to the place just behind it, and to one that is in it. */
    private static void edgesOfLeaves() {
        world();
        String code = "%s; nop; leave 6; num 7; out; endfinally; num 3; ret";
        write(0, String.format(code, "leave 6"), h(FINALLY, 0, 3, 3, 6));
        due("at the first one", 0, "0 0 3 [7]");
        write(0, String.format(code, "nop"), h(FINALLY, 0, 3, 3, 6));
        due("at the last one", 0, "0 0 3 [7]");
        write(0, String.format(code, "leave 2"), h(FINALLY, 0, 3, 3, 6));
        due("to one that is in it, then out", 0, "0 0 3 [7]");
        write(0, String.format(code, "leave 6"), h(FINALLY, 1, 3, 3, 6));
        due("ahead of it", 0, "0 0 3 []");
        write(0, "nop; leave 2; leave 7; nop; num 7; out; endfinally; num 3; ret", h(FINALLY, 0, 2, 4, 7));
        due("just behind it", 0, "0 0 3 [7]");
        // From the BLOCK of a CATCH back into its TRY, which lies in that of a FINALLY: that stands at both.
        write(0, "arg 0; ifnot 6; num 0; setarg 0; null; throw; leave 12; pop; leave 0; num 7; out; endfinally; num 3; ret", h(CATCH, 0, 7, 7, 9), h(FINALLY, 0, 9, 9, 12));
        due("back to where a TRY begins", 1, "0 0 3 [7]");
    }

    private static void fourHandlers() {
        world();
        String outs = "num 1; out; endfinally; num 2; out; endfinally; num 3; out; endfinally; num 4; out; endfinally; num 9; ret";
        int[][] of = {h(0, 0, 2, 2, 5), h(0, 0, 5, 5, 8), h(0, 0, 8, 8, 11), h(0, 0, 11, 11, 14)};
        for (int kind = FINALLY; kind <= RESCUE; kind++) {
            for (int[] k : of) k[0] = kind;
            write(0, "nop; leave 14; " + outs, of);
            due("four of " + kind + " that are left", 0, kind == FINALLY ? "0 0 9 [1 2 3 4]" : "0 0 9 []");
            write(0, "null; throw; " + outs, of);
            due("four of " + kind + " for none", 0, "1 1 0 [1 2 3 4]");
        }
        of[1][0] = FINALLY;
        of[2][0] = FINALLY;
        write(0, "nop; leave 14; " + outs, of);
        due("two of both, left", 0, "0 0 9 [2 3]");
        write(0, "null; throw; " + outs, of);
        due("two of both, thrown", 0, "1 1 0 [1 2 3 4]");
        // Four with the same TRY: the first one that is meant.
        String code = "arg 0; if 4; make 5; throw; make 6; throw; pop; num 1; out; leave 22; pop; num 2; out; leave 22; pop; num 3; out; leave 22; pop; num 4; out; leave 22; num 9; ret";
        write(0, code, h(CATCH, 0, 6, 6, 10, 6), h(CATCH, 0, 6, 10, 14, 5), h(CATCH, 0, 6, 14, 18, 5), h(CATCH, 0, 6, 18, 22));
        due("t1", 0, "0 0 9 [2]");
        due("t2", 1, "0 0 9 [1]");
        write(0, code, h(CATCH, 0, 6, 6, 10, 6), h(CATCH, 0, 6, 10, 14, 6), h(CATCH, 0, 6, 14, 18, 6), h(CATCH, 0, 6, 18, 22));
        due("the last one", 0, "0 0 9 [4]");
        write(0, code, h(CATCH, 0, 6, 6, 10, 6), h(CATCH, 0, 6, 10, 14, 6), h(CATCH, 0, 6, 14, 18, 6), h(CATCH, 0, 6, 18, 22, 6));
        due("none", 0, "1 0 0 []");
    }

    /** The HANDLER is meant, if the INT is not 0. */
    private static void tests() {
        world();
        write(0, "null; throw; pop; arg 0; endfilter; pop; num 7; out; leave 9; num 3; ret", h(FILTER, 0, 2, 5, 9, 2));
        for (int n : new int[] {MIN, -1, 1, 2, 256, 65536, MAX}) due("told " + n, n, "0 0 3 [7]");
        due("told 0", 0, "1 1 0 []");
        Due.is("39 STEPS of that", c.ofRun(2), 5);
        // The FAULT is alone on the stack of the TEST, which has a FRAME of its own.
        c.walk(0, 0, 0, 0);
        c.step(2);
        Due.is("46 the FRAME of the TEST", c.ofWalk(5) + " " + c.ofFrame(1, 0) + " " + c.ofFrame(1, 1) + " " + c.ofFrame(1, 2) + " " + c.value(1, 2, 0), "2 0 2 1 fault#1");
        Due.is("48 with the same PARAMETERS and LOCALS", c.value(1, 0, 0) + " " + c.value(1, 1, 0) + " " + c.value(1, 1, 1), "0 0 null");
        Due.fails("48 no more", Due.INDEX, () -> c.value(1, 0, 1));
        Due.is("46 below", c.ofFrame(0, 1) + " " + c.ofFrame(0, 2), "1 0");
        c.step(3);
        Due.is("44 UNCAUGHT", c.ofWalk(1) + " " + c.ofWalk(5), "1 0");
    }

    /** A TEST goes on with its own FAULT, whatever was thrown and caught in it. */
    private static void testsGoOn() {
        world();
        String code = "make 5; dup; num 8; setcode; throw; pop; null; throw; codeof; out; leave 11; arg 0; endfilter; codeof; out; leave 21; codeof; num 100; add; out; leave 21; num 3; ret";
        write(0, code, h(CATCH, 6, 8, 8, 11), h(FILTER, 0, 5, 13, 16, 5), h(CATCH, 0, 5, 16, 21));
        due("meant behind another one that was caught in it", 1, "0 0 3 [1 8]");
        due("not meant behind another one", 0, "0 0 3 [1 108]");
        // Likewise in a METHOD that the TEST calls.
        int m = c.method(0, 1, 0, 0);
        write(m, "null; throw; codeof; out; leave 5; num 1; ret", h(CATCH, 0, 2, 2, 5));
        write(0, "make 5; dup; num 8; setcode; throw; pop; call " + m + " 4; pop; arg 0; endfilter; codeof; out; leave 18; codeof; num 100; add; out; leave 18; num 3; ret",
            h(FILTER, 0, 5, 10, 13, 5), h(CATCH, 0, 5, 13, 18));
        due("meant behind a call", 1, "0 0 3 [1 8]");
        due("not meant behind a call", 0, "0 0 3 [1 108]");
        // What is not caught in it: it told 0, and its FINALLYS and RESCUES are done.
        write(0, "make 5; dup; num 8; setcode; throw; pop; num 1; arg 0; div; pop; leave 14; num 7; out; endfinally; num 1; endfilter; codeof; out; leave 24; codeof; num 100; add; out; leave 24; num 3; ret",
            h(RESCUE, 6, 11, 11, 14), h(FILTER, 0, 5, 16, 19, 5), h(CATCH, 0, 5, 19, 24));
        due("one that throws", 0, "0 0 3 [7 108]");
        due("one that does not", 1, "0 0 3 [8]");
    }

    /** The HANDLERS of a FRAME below count from the first one on, wherever the TEST above stood; FRAMES above stay till the second go. */
    private static void testsOfFrames() {
        world();
        int m = c.method(0, 1, 0, -1);
        write(m, "null; throw; pop; num 0; endfilter; pop; leave 9; pop; leave 9; ret", h(CATCH, 0, 2, 7, 9, 5), h(FILTER, 0, 2, 5, 7, 2));
        write(0, "call " + m + " 4; leave 5; codeof; out; leave 5; num 3; ret", h(CATCH, 0, 2, 2, 5));
        due("the first one below", 0, "0 0 3 [1]");
        // A TEST for the FRAME below: the FRAME above is there still, and its FINALLY is done behind it.
        write(m, "null; throw; num 7; out; endfinally", h(FINALLY, 0, 2, 2, 5));
        write(0, "call " + m + " 4; leave 9; pop; num 8; out; arg 0; endfilter; pop; leave 9; num 3; ret", h(FILTER, 0, 2, 7, 9, 2));
        due("a TEST for the FRAME below", 1, "0 0 3 [8 7]");
        due("one that told 0", 0, "1 1 0 [8 7]");
        c.walk(0, 1, 0, 0);
        c.step(3);
        Due.is("44 three FRAMES", c.ofWalk(5) + " " + c.ofFrame(0, 0) + " " + c.ofFrame(1, 0) + " " + c.ofFrame(2, 0), "3 0 " + m + " 0");
        Due.is("46 their places", c.ofFrame(0, 1) + " " + c.ofFrame(1, 1) + " " + c.ofFrame(2, 1), "0 1 2");
        Due.is("48 the TEST has the PARAMETERS of the one below", c.value(2, 0, 0), "1");
        c.step(5);
        Due.is("46 then the FINALLY above", c.ofWalk(5) + " " + c.ofFrame(1, 1) + " " + c.ofFrame(0, 1), "2 2 0");
        c.step(3);
        Due.is("46 then the BLOCK below", c.ofWalk(5) + " " + c.ofFrame(0, 1) + " " + c.ofFrame(0, 2), "1 7 1");
    }

    /** With 8 FRAMES no TEST is done, wherever it stands: the next HANDLER counts. With 7 it is. */
    private static void eightFrames() {
        world();
        int m = c.method(0, 1, 0, -1);
        c.param(m, 0);
        write(m, "arg 0; ifnot 6; arg 0; num 1; sub; call " + m + " 4; arg 0; if 10; null; throw; ret");
        String code = "arg 0; call " + m + " 4; leave 15; pop; num 5; out; num 1; endfilter; pop; leave 15; codeof; num 20; add; out; leave 15; num 3; ret";
        write(0, code, h(FILTER, 0, 3, 8, 10, 3), h(CATCH, 0, 3, 10, 15));
        due("with 8", 6, "0 0 3 [21]");
        due("with 7", 5, "0 0 3 [5]");
        due("with 2", 0, "0 0 3 [5]");
        // In a TEST FRAMES count, too: it has 8, so a call in it throws.
        write(0, code.replace("num 5; out; num 1", "num 0; call " + m + " 4; num 1"), h(FILTER, 0, 3, 8, 10, 3), h(CATCH, 0, 3, 10, 15));
        due("a call in the eighth FRAME", 5, "0 0 3 [21]");
        write(m, "arg 0; ifnot 6; arg 0; num 1; sub; call " + m + " 4; ret");
        write(0, code.replace("arg 0; call " + m + " 4; leave", "null; throw; leave").replace("num 5; out; num 1", "arg 0; call " + m + " 4; num 1"),
            h(FILTER, 0, 3, 8, 10, 3), h(CATCH, 0, 3, 10, 15));
        due("six above a TEST", 5, "0 0 3 []");
        due("seven are too many", 6, "0 0 3 [21]");
    }

    /** In the FRAME of the one that is meant just the FINALLYS and RESCUES with smaller numbers are done for it. */
    private static void smallerNumbers() {
        world();
        write(0, "null; throw; pop; num 1; out; leave 9; num 2; out; endfinally; num 3; ret", h(CATCH, 0, 2, 2, 6), h(FINALLY, 0, 6, 6, 9));
        due("the FINALLY around it is done as it is left", 0, "0 0 3 [1 2]");
        write(0, "null; throw; pop; num 1; out; leave 9; num 2; out; endfinally; num 3; ret", h(CATCH, 0, 2, 2, 6), h(RESCUE, 0, 6, 6, 9));
        due("the RESCUE around it is not", 0, "0 0 3 [1]");
        write(0, "null; throw; num 2; out; endfinally; pop; num 1; out; leave 9; num 3; ret", h(RESCUE, 0, 2, 2, 5), h(CATCH, 0, 5, 5, 9));
        due("one inside of it is done ahead", 0, "0 0 3 [2 1]");
        write(0, "nop; leave 2; null; throw; pop; num 1; out; leave 11; num 2; out; endfinally; num 3; ret", h(FINALLY, 0, 2, 8, 11), h(CATCH, 2, 4, 4, 8));
        due("one that does not stand there", 0, "0 0 3 [2 1]");
        // In a FRAME above all that stand there are done, also those with greater numbers.
        int m = c.method(0, 1, 0, -1);
        write(m, "null; throw; pop; num 1; out; leave 9; num 2; out; endfinally; ret", h(CATCH, 0, 2, 2, 6, 5), h(FINALLY, 0, 6, 6, 9));
        write(0, "call " + m + " 4; leave 7; codeof; num 30; add; out; leave 7; num 3; ret", h(CATCH, 0, 2, 2, 7));
        due("all of a FRAME above", 0, "0 0 3 [2 31]");
    }

    /** FRAMES below stand at their calls: the TRY has to have just that. */
    private static void framesBelow() {
        world();
        int m = c.method(0, 1, 0, 0);
        c.param(m, 0);
        write(m, "num 6; arg 0; div; ret");
        write(0, "num 0; call " + m + " 4; pop; leave 7; codeof; out; leave 7; num 3; ret", h(CATCH, 0, 4, 4, 7));
        due("a call in the TRY", 0, "0 0 3 [4]");
        write(0, "nop; num 0; setloc 0; nop; leave 5; loc 0; call " + m + " 4; ret; codeof; out; leave 11; num 3; ret", h(CATCH, 1, 5, 8, 11));
        due("a call behind it", 0, "1 4 0 []");
        int none = c.method(0, 1, 0, -1);
        write(none, "null; throw");
        write(0, "nop; call " + none + " 4; leave 3; num 3; ret; codeof; out; leave 3", h(CATCH, 1, 3, 5, 8));
        due("a call at the first place of it", 0, "0 0 3 [1]");
        write(0, "call " + none + " 4; nop; leave 3; num 3; ret; codeof; out; leave 3", h(CATCH, 1, 3, 5, 8));
        due("a call just ahead of it", 0, "1 1 0 []");
        write(0, "nop; leave 2; call " + none + " 4; num 3; ret; codeof; out; leave 3", h(CATCH, 0, 2, 5, 8));
        due("a call just behind it", 0, "1 1 0 []");
        // Each FRAME of eight has a FINALLY: all are done from the top down.
        int n = c.method(0, 2, 0, -1);
        c.param(n, 0);
        write(n, "arg 0; ifnot 6; arg 0; num 1; sub; call " + n + " 4; null; throw; arg 0; out; endfinally", h(FINALLY, 0, 8, 8, 11));
        write(0, "arg 0; call " + n + " 4; num 3; ret");
        due("eight FRAMES", 6, "1 1 0 [0 1 2 3 4 5 6]");
        write(0, "arg 0; call " + n + " 4; leave 8; codeof; out; num 99; out; leave 8; num 3; ret", h(CATCH, 0, 3, 3, 8));
        due("eight FRAMES, the lowest one catches", 6, "0 0 3 [0 1 2 3 4 5 6 1 99]");
    }

    /** The stack of a FRAME in which a BLOCK begins is empty, or the FAULT alone; those below stay till then. */
    private static void stacks() {
        world();
        int m = c.method(0, 1, 0, -1);
        write(m, "num 1; num 2; null; throw; nop; endfinally", h(FINALLY, 0, 4, 4, 6));
        write(0, "num 5; num 6; num 7; call " + m + " 4; pop; pop; pop; leave 13; nop; endfinally; pop; nop; leave 13; num 3; ret", h(FINALLY, 0, 8, 8, 10), h(CATCH, 0, 10, 10, 13));
        c.walk(0, 0, 0, 0);
        c.step(7);
        Due.is("46 ahead of it", c.ofWalk(5) + " " + c.ofFrame(0, 2) + " " + c.ofFrame(1, 2), "2 3 3");
        c.step(1);
        Due.is("46 in the BLOCK above", c.ofFrame(1, 1) + " " + c.ofFrame(1, 2) + " " + c.ofFrame(0, 1) + " " + c.ofFrame(0, 2), "4 0 3 3");
        Due.is("48 what lies below", c.value(0, 2, 0) + c.value(0, 2, 1) + c.value(0, 2, 2), "567");
        c.step(2);
        Due.is("46 in the BLOCK below", c.ofWalk(5) + " " + c.ofFrame(0, 1) + " " + c.ofFrame(0, 2), "1 8 0");
        Due.is("49 the FAULT is REACHED", c.reached(0) + " " + c.ofWalk(7), "1 3");
        c.step(2);
        Due.is("46 in the BLOCK of the CATCH", c.ofFrame(0, 1) + " " + c.ofFrame(0, 2) + " " + c.value(0, 2, 0), "10 1 fault#1");
        c.step(1);
        Due.is("49 it is gone", c.ofFrame(0, 2) + " " + c.ofWalk(7), "0 0");
        // "leave" and "endfinally" empty it, too.
        write(0, "num 5; num 6; leave 6; num 7; num 8; endfinally; num 3; ret", h(FINALLY, 0, 3, 3, 6));
        c.walk(0, 0, 0, 0);
        c.step(3);
        Due.is("46 behind \"leave\"", c.ofFrame(0, 1) + " " + c.ofFrame(0, 2), "3 0");
        c.step(2);
        Due.is("46 in the BLOCK", c.ofFrame(0, 2), 2);
        c.step(1);
        Due.is("46 behind \"endfinally\"", c.ofFrame(0, 1) + " " + c.ofFrame(0, 2), "6 0");
        write(0, "num 5; num 6; leave 3; num 3; ret");
        c.walk(0, 0, 0, 0);
        c.step(3);
        Due.is("46 behind \"leave\" out of no TRY", c.ofFrame(0, 1) + " " + c.ofFrame(0, 2), "3 0");
    }

    /** What is called takes all it is given from the stack, also THIS and the BOUND CALL; as it ends its RESULT comes there. */
    private static void calls() {
        world();
        int i = c.expr(0, c.type(2, false, -1, -1), 0);
        int asked = c.method(3, 3, 2, 0);
        c.param(asked, 0);
        int d = c.expr(0, c.type(3, false, -1, -1), 0);
        c.param(c.method(4, 0, 2, 0), 0);
        c.implement(0, i);
        int own = c.method(0, 2, 1, 0);
        int virtual = c.method(0, 3, 2, 0);
        int still = c.method(0, 4, 0, 0);
        int none = c.method(0, 5, 0, -1);
        for (int m : new int[] {own, virtual, still, none}) c.param(m, 0);
        for (int m : new int[] {own, virtual}) Due.write(c, m, "arg 1; ret");
        Due.write(c, still, "arg 0; ret");
        Due.write(c, none, "ret");
        String[] all = {"num 3; call " + still + " 4", "make 4; num 3; call " + own + " 4", "make 4; num 3; callv " + own + " 4", "make 4; num 3; callv " + virtual + " 4",
            "make 4; num 3; callv " + asked + " " + i, "make 4; setloc 1; locp 1; num 3; callon " + asked + " " + i, "bind " + still + " " + d + "; num 3; invoke " + d,
            "make 4; bind " + own + " " + d + "; num 3; invoke " + d, "num 3; call " + none + " 4"};
        c.local(0, i);
        for (String code : all) {
            if (code.contains("callon")) code = code.replace("setloc 1; locp 1", "setloc 2; locp 2");
            int ahead = code.split(";").length + 1;
            boolean hasNone = code.contains("call " + none + " ");
            write(0, "num 9; " + code + "; " + (hasNone ? "" : "pop; ") + "ret");
            c.walk(0, 0, 0, 0);
            c.step(ahead);
            Due.is("46 below what is called by " + code, c.ofWalk(5) + " " + c.ofFrame(0, 2) + " " + c.value(0, 2, 0) + " " + c.ofFrame(0, 1), "2 1 9 " + (ahead - 1));
            Due.is("48 what it is given", c.value(1, 0, c.ofMethod(c.ofFrame(1, 0), 2) == 0 ? 0 : 1), "3");
            Due.is("46 it begins with nothing", c.ofFrame(1, 1) + " " + c.ofFrame(1, 2), "0 0");
            c.step(hasNone ? 1 : 2);
            Due.is("46 behind the call by " + code, c.ofWalk(5) + " " + c.ofFrame(0, 2) + " " + c.ofFrame(0, 1), "1 " + (hasNone ? 1 : 2) + " " + ahead);
            if (!hasNone) Due.is("48 its RESULT", c.value(0, 2, 1), "3");
        }
    }

    /** The EXPRESSION of a CATCH stands FOR the HOLDER. */
    private static void catchesOfT() {
        world();
        int t = c.type(0, true, -1, 2);
        int fT = c.expr(1, t, 3);
        int fInt = c.expr(1, t, 0);
        int fObject = c.expr(1, t, 1);
        int m = c.method(t, 1, 0, 0);
        write(m, "make " + fInt + "; throw; pop; leave 4; num 3; ret", h(CATCH, 0, 2, 2, 4, fT));
        write(0, "call " + m + " " + fInt + "; ret");
        due("FOR int", 0, "0 0 3 []");
        write(0, "call " + m + " " + fObject + "; ret");
        due("FOR object it is another one", 0, "1 0 0 []");
        write(m, "make " + fT + "; throw; pop; leave 4; num 3; ret", h(CATCH, 0, 2, 2, 4, fObject));
        due("thrown FOR object", 0, "0 0 3 []");
        write(0, "call " + m + " " + fInt + "; ret");
        due("thrown FOR int", 0, "1 0 0 []");
    }

    /** A FRAME that went in the middle of a BLOCK leaves nothing for the next one that comes there. */
    private static void oldDuties() {
        world();
        int m = c.method(0, 1, 0, -1);
        write(m, "make 5; throw; make 6; throw; endfinally", h(FINALLY, 0, 2, 2, 5));
        write(0, "call " + m + " 4; leave 4; pop; leave 4; null; throw; pop; cells; out; num 1; endfilter; pop; leave 13; cells; ret", h(CATCH, 0, 2, 2, 4), h(FILTER, 4, 6, 11, 13, 6));
        due("in the TEST there is just its FAULT", 0, "0 0 0 [3]");
        int n = c.method(0, 1, 0, 0);
        write(n, "cells; ret");
        write(0, "call " + m + " 4; leave 4; pop; leave 4; call " + n + " 4; ret", h(CATCH, 0, 2, 2, 4));
        due("in a METHOD that is called then", 0, "0 0 0 []");
    }

    /** TRYS in a BLOCK that is done for a FAULT or for a "leave": what is caught there does not end that. */
    private static void inBlocks() {
        world();
        // FINALLY 2-11, in it CATCH (TRY 3-5) 5-8; its TRY 0-1.
        String code = "%s; %s; nop; null; throw; codeof; out; leave 8; num 7; out; endfinally; codeof; num 30; add; out; leave 16; num 3; ret";
        int[][] of = {h(FINALLY, 0, 2, 2, 11), h(CATCH, 3, 5, 5, 8), h(CATCH, 0, 11, 11, 16)};
        write(0, String.format(code, "make 5", "throw"), of);
        due("for a FAULT", 0, "0 0 3 [1 7 30]");
        write(0, String.format(code, "nop", "leave 16"), of);
        due("for a \"leave\"", 0, "0 0 3 [1 7]");
        // A TRY that has all but the "endfinally" of the BLOCK.
        code = "%s; %s; null; throw; codeof; out; leave 7; endfinally; codeof; num 30; add; out; leave 13; num 3; ret";
        of = new int[][] {h(FINALLY, 0, 2, 2, 8), h(CATCH, 2, 4, 4, 7), h(CATCH, 0, 8, 8, 13)};
        write(0, String.format(code, "make 5", "throw"), of);
        due("all but its end, for a FAULT", 0, "0 0 3 [1 30]");
        write(0, String.format(code, "nop", "leave 13"), of);
        due("all but its end, for a \"leave\"", 0, "0 0 3 [1]");
        // A METHOD that is called from the BLOCK throws and catches for itself.
        int m = c.method(0, 1, 0, -1);
        write(m, "null; throw; num 8; out; endfinally; pop; leave 7; ret", h(FINALLY, 0, 2, 2, 5), h(CATCH, 0, 5, 5, 7));
        write(0, "make 5; throw; call " + m + " 4; endfinally; codeof; num 30; add; out; leave 9; num 3; ret", h(RESCUE, 0, 2, 2, 4), h(CATCH, 0, 4, 4, 9));
        due("a METHOD that is called there", 0, "0 0 3 [8 30]");
    }

    private static void forgets() {
        world();
        // A "leave" that was to do two BLOCKS: the first one throws, and the FAULT is caught around both: it is forgotten.
        write(0, "nop; leave 17; null; throw; endfinally; num 2; out; endfinally; codeof; out; leave 11; num 4; out; num 3; ret; nop; nop; num 9; ret",
            h(FINALLY, 0, 2, 2, 5), h(FINALLY, 0, 5, 5, 8), h(CATCH, 0, 8, 8, 11));
        due("a \"leave\"", 0, "0 0 3 [2 1 4]");
        // The same FAULT is thrown again in the BLOCK that is done for it: it is done once.
        write(0, "make 5; dup; setloc 1; throw; num 7; out; loc 1; cast 2; throw; endfinally; codeof; num 30; add; out; null; setloc 1; cells; out; leave 19; cells; ret",
            h(FINALLY, 0, 4, 4, 10), h(CATCH, 0, 10, 10, 19));
        due("the same one again", 0, "0 0 0 [7 30 0]");
        // Three FAULTS, each one in the BLOCK of the one before: all of them are REACHED, till the last one is for none.
        write(0, "make 5; throw; make 5; throw; make 5; throw; cells; out; endfinally; endfinally; cells; out; endfinally", h(FINALLY, 4, 6, 6, 9), h(FINALLY, 2, 4, 4, 10), h(FINALLY, 0, 2, 2, 13));
        due("three at once", 0, "1 0 0 [9]");
        c.walk(0, 0, 0, 0);
        c.step(6);
        Due.is("49 three", c.reached(0) + " " + c.reached(1) + " " + c.reached(2) + " " + c.reached(3), "1 2 3 -1");
        c.step(600);
        Due.is("49 the last one alone", c.reached(0) + " " + c.reached(1), "3 -1");
    }

    /** CUT in a TEST or a BLOCK: what is thrown is REACHED behind that END. */
    private static void cutInside() {
        world();
        write(0, "make 5; throw; pop; go 3; pop; leave 6; num 3; ret", h(FILTER, 0, 2, 4, 6, 2));
        c.walk(0, 0, 0, 0);
        c.step(600);
        Due.is("44 CUT in a TEST", c.ofWalk(1) + " " + c.ofWalk(5) + " " + c.ofFrame(1, 1) + " " + c.reached(0) + " " + c.ofWalk(7), "2 2 3 1 3");
        Due.is("51 behind it", c.collect(), 3);
        Due.is("54 sound", c.isSound(), true);
        write(0, "make 5; throw; nop; go 3; pop; leave 6; num 3; ret", h(RESCUE, 0, 2, 2, 4));
        c.walk(0, 0, 0, 0);
        c.step(600);
        Due.is("44 CUT in a BLOCK", c.ofWalk(1) + " " + c.ofWalk(5) + " " + c.ofFrame(0, 1) + " " + c.reached(0) + " " + c.ofWalk(7), "2 1 3 1 3");
        write(0, "nop; leave 4; nop; go 3; num 3; ret", h(FINALLY, 0, 2, 2, 4));
        c.walk(0, 0, 0, 0);
        c.step(600);
        Due.is("44 CUT in a BLOCK that a \"leave\" does", c.ofWalk(1) + " " + c.ofWalk(6), "2 0");
        write(0, "make 5; throw; pop; go 3; num 3; ret", h(CATCH, 0, 2, 2, 4));
        c.walk(0, 0, 0, 0);
        c.step(600);
        Due.is("44 CUT in the BLOCK of a CATCH", c.ofWalk(1) + " " + c.ofWalk(6), "2 0");
    }

    /** What a FAULT leads to is REACHED as long as that is. */
    private static void leads() {
        world();
        int f = c.field(1, 1, false);
        // The FAULT has an object; its CELLS are 4, with that 6.
        String made = "make 5; dup; make 1; set " + f + " 5; throw; ";
        write(0, made + "cells; out; endfinally; pop; cells; out; leave 12; cells; ret", h(FINALLY, 0, 5, 5, 8), h(CATCH, 0, 8, 8, 12));
        due("in a BLOCK that is done for it", 0, "0 0 0 [6 0]");
        write(0, made + "pop; cells; out; num 1; endfilter; setloc 1; cells; out; leave 14; cells; ret", h(FILTER, 0, 5, 10, 14, 5));
        due("in its TEST", 0, "0 0 6 [6 6]");
        write(0, made);
        c.walk(0, 0, 0, 0);
        c.step(600);
        Due.is("50 UNCAUGHT", c.reached(0) + " " + c.reached(1) + " " + c.thing(1) + " " + c.ofWalk(7), "1 2 {0,object#2} 6");
    }

    private static void throwsAgain() {
        world();
        // From the BLOCK of a CATCH the same FAULT to the HANDLER around it; not to another one of the same TRY.
        write(0, "make 5; throw; throw; pop; num 8; out; leave 11; pop; num 9; out; leave 11; num 3; ret", h(CATCH, 0, 2, 2, 3, 5), h(CATCH, 0, 2, 3, 7), h(CATCH, 0, 7, 7, 11));
        due("to the one around it", 0, "0 0 3 [9]");
        c.unhandle(0);
        due("to none", 0, "1 0 0 []");
        Due.is("39 STEPS", c.ofRun(2), 3);
        // A FAULT that is thrown and one that comes of "null; throw" are two.
        write(0, "make 5; dup; num 6; setcode; setloc 1; null; throw; codeof; out; loc 1; cast 2; throw", h(CATCH, 5, 7, 7, 12));
        due("another one", 0, "1 6 0 [1]");
        c.walk(0, 0, 0, 0);
        c.step(600);
        Due.is("49 the one that was caught is gone, the other one is not", c.reached(0) + " " + c.reached(1) + " " + c.thing(1), "1 -1 {6}");
    }
}
