/** Section 3 of the document, HANDLERS at their edges: PARTS, how two stand to one another, ways in and out, their STATES. */
public final class HandlerEdgesTest {
    private static final int CATCH = 0, FILTER = 1, FINALLY = 2, RESCUE = 3;
    private static Cellruntime c;
    private static int m;
    private static int o0;
    private static int f1;
    private static int f2;
    private static int f2ofInt;
    private static int f3ofInt;

    public static void main(String[] args) {
        parts();
        partsAtTheEnd();
        partsTogether();
        expressions();
        apart();
        sameTry();
        insideTry();
        insideBlock();
        insideTest();
        several();
        endsOfParts();
        waysIn();
        waysOut();
        leaves();
        nested();
        first();
        states();
        statesOfHandlers();
        Due.end("HandlerEdgesTest");
    }

    /** t0 CLASS, t1 FAULT's, t2 OPEN CLASS of FAULT, t3 the same with a BOUND that INT does not keep; m STATIC of t0. */
    private static void world() {
        c = new Cellruntime();
        c.type(0, false, -1, 1);
        o0 = c.expr(0, 0, 0);
        c.type(0, false, -1, 2);
        f1 = c.expr(0, 1, 0);
        c.type(0, true, -1, 2);
        f2 = c.expr(1, 2, 3);
        f2ofInt = c.expr(1, 2, 0);
        c.type(2, false, -1, -1);
        c.type(0, true, c.expr(0, 3, 0), 2);
        f3ofInt = c.expr(1, 4, 0);
        m = c.method(0, 0, 0, -1);
        c.param(m, 0);
    }

    private static void code(String code, int[]... handlers) {
        while (c.unhandle(m) >= 0) c.ofMethod(m, 7);
        c.cut(m, c.ofMethod(m, 6));
        Due.write(c, m, code);
        for (int[] h : handlers) {
            int n = c.handler(m, h[0], h[1], h[2], h[3], h[4]);
            if (h.length > 5) c.handles(m, n, h[5]);
        }
    }

    private static int[] h(int... all) {
        return all;
    }

    private static String error() {
        return c.error(m) + " " + c.errorPlace(m);
    }

    private static void due(String want, String code, int[]... handlers) {
        code(code, handlers);
        Due.is("31 error of " + code + " " + java.util.Arrays.deepToString(handlers), error(), want);
    }

    /** In a METHOD of just "ret" and others that are never come to: HANDLERS alone decide. */
    private static void stand(boolean want, int[]... handlers) {
        code("ret" + "; nop".repeat(39), handlers);
        String told = "31 HANDLERS " + java.util.Arrays.deepToString(handlers);
        Due.is(told, error(), want ? "0 -1" : "8 " + (handlers.length - 1));
    }

    private static void parts() {
        world();
        for (int kind = CATCH; kind <= RESCUE; kind++) {
            if (kind == FILTER) continue;
            stand(true, h(kind, 5, 6, 6, 7));
            stand(false, h(kind, 5, 5, 6, 7));
            stand(false, h(kind, 6, 5, 7, 8));
            stand(false, h(kind, 5, 6, 6, 6));
            stand(false, h(kind, 5, 6, 7, 6));
            stand(true, h(kind, 5, 6, 39, 40));
            stand(true, h(kind, 1, 39, 39, 40));
            stand(true, h(kind, 39, 40, 1, 39));
            stand(false, h(kind, 40, 40, 1, 39));
            stand(false, h(kind, 1, 39, 40, 40));
            stand(false, h(kind, 40, 0, 1, 39));
        }
        stand(true, h(FILTER, 5, 6, 7, 8, 6));
        stand(false, h(FILTER, 5, 6, 7, 8));
        stand(false, h(FILTER, 5, 6, 7, 8, 7));
        stand(false, h(FILTER, 5, 6, 7, 8, 8));
        stand(false, h(FILTER, 5, 6, 7, 8, 40));
        stand(false, h(FILTER, 5, 5, 7, 8, 6));
        stand(false, h(FILTER, 5, 6, 7, 7, 6));
        stand(true, h(FILTER, 1, 38, 39, 40, 38));
        stand(true, h(FILTER, 39, 40, 2, 39, 1));
        stand(true, h(FILTER, 1, 2, 3, 40, 2));
    }

    /** With fewer INSTRUCTIONS than 40: up to just behind the last one, and one more. */
    private static void partsAtTheEnd() {
        world();
        String ten = "ret" + "; nop".repeat(9);
        due("0 -1", ten, h(FINALLY, 1, 5, 5, 10));
        due("8 0", ten, h(FINALLY, 1, 5, 5, 11));
        due("0 -1", ten, h(RESCUE, 5, 10, 1, 5));
        due("8 0", ten, h(RESCUE, 5, 11, 1, 5));
        due("0 -1", ten, h(FILTER, 1, 2, 9, 10, 2));
        due("8 0", ten, h(FILTER, 1, 2, 9, 11, 2));
        due("8 0", ten, h(FILTER, 1, 2, 10, 11, 9));
        due("8 0", ten, h(CATCH, 1, 2, 10, 11));
        due("0 -1", ten, h(CATCH, 1, 5, 5, 10));
        c.cut(m, 1);
        Due.is("31 the last one is cut", error(), "8 0");
        c.code(m, 0, 0, 0);
        Due.is("31 it is there again", error(), "0 -1");
        c.handles(m, 0, c.exprs());
        Due.is("31 no EXPRESSION", error(), "8 0");
        c.unhandle(m);
        Due.is("31 the HANDLER goes", error(), "0 -1");
    }

    private static void partsTogether() {
        world();
        stand(true, h(CATCH, 5, 8, 8, 10));
        stand(false, h(CATCH, 5, 9, 8, 10));
        stand(true, h(CATCH, 8, 10, 5, 8));
        stand(false, h(CATCH, 8, 10, 5, 9));
        stand(false, h(CATCH, 5, 8, 5, 8));
        stand(false, h(CATCH, 5, 10, 6, 8));
        stand(false, h(CATCH, 6, 8, 5, 10));
        stand(true, h(FILTER, 5, 8, 10, 12, 8));
        stand(false, h(FILTER, 5, 9, 10, 12, 8));
        stand(false, h(FILTER, 5, 8, 10, 12, 7));
        stand(true, h(FILTER, 5, 8, 10, 12, 9));
        stand(false, h(FILTER, 9, 10, 10, 12, 8));
        stand(true, h(FILTER, 12, 14, 10, 12, 8));
        stand(false, h(FILTER, 11, 14, 10, 12, 8));
        stand(true, h(FILTER, 6, 8, 10, 12, 8));
    }

    private static void expressions() {
        world();
        int place = c.expr(3, 2, 0);
        int row = c.expr(2, 2, 0);
        int[] wrong = {Integer.MIN_VALUE, -1, c.exprs(), Integer.MAX_VALUE, 0, 1, 3, o0, f2, f3ofInt, place, row};
        for (int x : wrong) stand(false, h(CATCH, 5, 6, 6, 7, x));
        int[] right = {2, f1, f2ofInt};
        for (int x : right) stand(true, h(CATCH, 5, 6, 6, 7, x));
        m = c.method(2, 0, 0, -1);
        for (int x : new int[] {2, f1, f2ofInt, f2}) stand(true, h(CATCH, 5, 6, 6, 7, x));
        for (int x : new int[] {3, f3ofInt, o0}) stand(false, h(CATCH, 5, 6, 6, 7, x));
    }

    private static void apart() {
        world();
        int[] g = h(FINALLY, 10, 12, 14, 16);
        for (int kind = CATCH; kind <= RESCUE; kind++) {
            if (kind == FILTER) continue;
            stand(true, g, h(kind, 8, 10, 12, 14));
            stand(true, g, h(kind, 12, 14, 16, 18));
            stand(true, g, h(kind, 16, 17, 9, 10));
            stand(false, g, h(kind, 8, 11, 12, 14));
            stand(false, g, h(kind, 8, 10, 12, 15));
            stand(false, g, h(kind, 8, 10, 11, 14));
            stand(false, g, h(kind, 15, 18, 18, 20));
            stand(false, g, h(kind, 18, 20, 15, 18));
        }
        stand(true, g, h(FILTER, 16, 17, 18, 19, 17));
        stand(true, g, h(FILTER, 12, 13, 17, 18, 16));
        stand(false, g, h(FILTER, 17, 18, 16, 17, 15));
        int[] f = h(FILTER, 10, 12, 14, 16, 13);
        stand(true, f, h(CATCH, 12, 13, 16, 17));
        stand(false, f, h(CATCH, 12, 14, 16, 17));
        stand(false, f, h(CATCH, 16, 17, 12, 14));
    }

    private static void sameTry() {
        world();
        for (int one = CATCH; one <= RESCUE; one++) for (int other = CATCH; other <= RESCUE; other++) {
            int[] g = one == FILTER ? h(one, 5, 8, 10, 12, 9) : h(one, 5, 8, 10, 12);
            int[] k = other == FILTER ? h(other, 5, 8, 14, 16, 13) : h(other, 5, 8, 14, 16);
            stand(one <= FILTER && other <= FILTER, g, k);
        }
        stand(false, h(CATCH, 5, 8, 10, 12), h(CATCH, 5, 9, 14, 16));
        stand(false, h(CATCH, 5, 8, 10, 12), h(CATCH, 5, 7, 14, 16));
        stand(false, h(CATCH, 5, 8, 10, 12), h(CATCH, 4, 8, 14, 16));
        stand(false, h(CATCH, 5, 8, 10, 12), h(CATCH, 6, 8, 14, 16));
        stand(true, h(CATCH, 5, 8, 10, 12), h(CATCH, 5, 8, 12, 16));
        stand(false, h(CATCH, 5, 8, 10, 12), h(CATCH, 5, 8, 11, 16));
        stand(false, h(CATCH, 5, 8, 10, 12), h(CATCH, 5, 8, 10, 12));
        stand(true, h(CATCH, 5, 8, 10, 12), h(FILTER, 5, 8, 9, 10, 8));
        stand(false, h(CATCH, 5, 8, 10, 12), h(FILTER, 5, 8, 9, 11, 8));
        stand(true, h(CATCH, 5, 8, 10, 12), h(FILTER, 5, 8, 13, 14, 12));
        stand(false, h(CATCH, 5, 8, 10, 12), h(FILTER, 5, 8, 13, 14, 11));
        stand(false, h(FILTER, 5, 8, 13, 14, 11), h(CATCH, 5, 8, 10, 12));
        stand(false, h(FILTER, 5, 8, 12, 14, 10), h(FILTER, 5, 8, 16, 17, 13));
        stand(true, h(FILTER, 5, 8, 12, 14, 10), h(FILTER, 5, 8, 16, 17, 14));
        stand(true, h(CATCH, 5, 8, 10, 12), h(CATCH, 5, 8, 12, 14), h(FILTER, 5, 8, 15, 16, 14), h(CATCH, 5, 8, 8, 10));
    }

    private static void insideTry() {
        world();
        int[] g = h(CATCH, 10, 12, 14, 16);
        for (int kind = CATCH; kind <= RESCUE; kind++) {
            if (kind == FILTER) continue;
            stand(true, g, h(kind, 10, 16, 16, 18));
            stand(true, g, h(kind, 9, 17, 17, 18));
            stand(true, g, h(kind, 10, 16, 8, 10));
            stand(false, g, h(kind, 11, 16, 16, 18));
            stand(false, g, h(kind, 10, 15, 16, 18));
            stand(false, g, h(kind, 10, 14, 16, 18));
            stand(false, h(kind, 10, 16, 16, 18), g);
            stand(false, h(kind, 9, 17, 17, 18), g);
            stand(false, g, h(kind, 10, 13, 13, 14));
        }
        int[] f = h(FILTER, 12, 13, 11, 12, 10);
        stand(true, f, h(FINALLY, 10, 13, 13, 14));
        stand(false, f, h(FINALLY, 11, 13, 13, 14));
        stand(false, f, h(FINALLY, 10, 12, 13, 14));
        int[] t = h(FILTER, 10, 11, 13, 14, 12);
        stand(true, t, h(RESCUE, 10, 14, 14, 15));
        stand(false, t, h(RESCUE, 10, 13, 14, 15));
        stand(true, g, h(FILTER, 10, 16, 18, 20, 16));
        stand(true, g, h(FILTER, 10, 16, 9, 10, 8));
    }

    private static void insideBlock() {
        world();
        int[] g = h(CATCH, 10, 12, 14, 16);
        for (int kind = CATCH; kind <= RESCUE; kind++) {
            if (kind == FILTER) continue;
            int[][] right = {h(kind, 5, 6, 10, 16), h(kind, 5, 6, 9, 17), h(kind, 20, 21, 10, 16)};
            int[][] wrong = {h(kind, 5, 6, 11, 16), h(kind, 5, 6, 10, 15), h(kind, 5, 6, 13, 16), h(kind, 5, 6, 10, 14)};
            for (int[] k : right) {
                stand(true, g, k);
                stand(true, k, g);
            }
            for (int[] k : wrong) {
                stand(false, g, k);
                stand(false, k, g);
            }
        }
        int[] f = h(FILTER, 10, 11, 13, 14, 12);
        stand(true, f, h(FINALLY, 5, 6, 10, 14));
        stand(true, h(FINALLY, 5, 6, 10, 14), f);
        stand(false, f, h(FINALLY, 5, 6, 11, 14));
        stand(false, h(FINALLY, 5, 6, 10, 13), f);
        stand(true, g, h(FILTER, 5, 6, 10, 16, 7));
        stand(true, h(FILTER, 5, 6, 10, 16, 9), g);
    }

    private static void insideTest() {
        world();
        for (int kind = CATCH; kind <= RESCUE; kind++) {
            if (kind == FILTER) continue;
            int[] g = h(kind, 10, 12, 14, 16);
            int[][] right = {h(FILTER, 5, 6, 16, 17, 10), h(FILTER, 5, 6, 17, 18, 9)};
            int[][] wrong = {h(FILTER, 5, 6, 16, 17, 11), h(FILTER, 5, 6, 15, 16, 10), h(FILTER, 5, 6, 14, 16, 10), h(FILTER, 5, 6, 15, 17, 10)};
            for (int[] f : right) {
                stand(true, g, f);
                stand(true, f, g);
            }
            for (int[] f : wrong) {
                stand(false, g, f);
                stand(false, f, g);
            }
        }
        int[] in = h(FILTER, 10, 11, 13, 14, 12);
        stand(true, in, h(FILTER, 5, 6, 14, 15, 10));
        stand(true, h(FILTER, 5, 6, 14, 15, 10), in);
        stand(false, h(FILTER, 5, 6, 13, 15, 10), in);
    }

    /** The first HANDLER for which something is so is told. */
    private static void several() {
        world();
        int[] good = h(CATCH, 5, 6, 6, 7);
        int[] bad = h(CATCH, 7, 7, 8, 9);
        String code = "ret" + "; nop".repeat(39);
        due("8 0", code, bad, good);
        due("8 1", code, good, bad);
        due("8 0", code, bad, bad);
        due("8 2", code, good, h(CATCH, 10, 11, 11, 12), bad, bad);
        due("8 3", code, good, h(CATCH, 10, 11, 11, 12), h(FINALLY, 5, 7, 7, 8), h(FINALLY, 10, 11, 12, 13));
        due("8 3", code, good, h(CATCH, 10, 11, 11, 12), h(FINALLY, 5, 7, 7, 8), h(CATCH, 20, 21, 21, 22, o0));
        due("0 -1", code, good, h(CATCH, 10, 11, 11, 12), h(FINALLY, 5, 7, 7, 8), h(RESCUE, 4, 12, 12, 13));
        due("8 2", code, good, h(CATCH, 10, 11, 11, 12), h(FINALLY, 5, 11, 12, 13));
        code("add; ret", bad);
        Due.is("31 8 ahead of what is found later", error(), "8 0");
        Due.is("33 it was not gone through", c.state(m, 0) + c.state(m, 1), "--");
    }

    /** "ret", "endfinally", "endfilter": by the smallest PART in which the place lies. */
    private static void endsOfParts() {
        world();
        // TRY 0-1, TEST or nothing 2-3, BLOCK 4-5; in BLOCK or TEST a TRY of another one with its BLOCK.
        due("0 -1", "nop; leave 4; nop; endfinally; ret", h(FINALLY, 0, 2, 2, 4));
        due("5 0", "ret; leave 4; nop; endfinally; ret", h(FINALLY, 0, 2, 2, 4));
        due("5 1", "nop; ret; nop; endfinally; ret", h(FINALLY, 0, 2, 2, 4));
        due("5 2", "nop; leave 4; ret; endfinally; ret", h(FINALLY, 0, 2, 2, 4));
        due("5 3", "nop; leave 4; nop; ret; ret", h(RESCUE, 0, 2, 2, 4));
        due("5 3", "nop; leave 4; pop; ret; ret", h(CATCH, 0, 2, 2, 4));
        due("5 3", "nop; leave 4; pop; endfinally; ret", h(CATCH, 0, 2, 2, 4));
        due("5 1", "nop; endfinally; nop; endfinally; ret", h(FINALLY, 0, 2, 2, 4));
        due("5 4", "nop; leave 4; nop; endfinally; endfinally", h(FINALLY, 0, 2, 2, 4));
        due("0 -1", "nop; leave 4; nop; endfinally; ret", h(RESCUE, 0, 2, 2, 4));
        due("5 3", "nop; leave 4; num 1; endfilter; ret", h(FINALLY, 0, 2, 2, 4));
        String filter = "nop; leave 6; codeof; endfilter; pop; leave 6; ret";
        due("0 -1", filter, h(FILTER, 0, 2, 4, 6, 2));
        due("5 4", "nop; leave 6; codeof; endfilter; endfilter; leave 6; ret", h(FILTER, 0, 2, 4, 6, 2));
        due("5 1", "nop; endfilter; codeof; endfilter; pop; leave 6; ret", h(FILTER, 0, 2, 4, 6, 2));
        due("5 3", "nop; leave 6; pop; endfinally; pop; leave 6; ret", h(FILTER, 0, 2, 4, 6, 2));
        due("5 3", "nop; leave 6; pop; ret; pop; leave 6; ret", h(FILTER, 0, 2, 4, 6, 2));
        due("2 3", "nop; leave 6; pop; endfilter; pop; leave 6; ret", h(FILTER, 0, 2, 4, 6, 2));
        due("2 4", "nop; leave 7; codeof; dup; endfilter; pop; leave 7; ret", h(FILTER, 0, 2, 5, 7, 2));
        due("3 3", "nop; leave 6; nop; endfilter; pop; leave 6; ret", h(FILTER, 0, 2, 4, 6, 2));
        // In the BLOCK of a FINALLY: a TRY 2-3 and the BLOCK 4-5 of another one.
        String in = "nop; leave 7; nop; leave 6; %s; endfinally; endfinally; ret";
        due("0 -1", String.format(in, "nop"), h(FINALLY, 0, 2, 2, 7), h(FINALLY, 2, 4, 4, 6));
        due("0 -1", String.format(in, "nop"), h(FINALLY, 0, 2, 2, 7), h(RESCUE, 2, 4, 4, 6));
        due("5 5", String.format(in, "pop"), h(FINALLY, 0, 2, 2, 7), h(CATCH, 2, 4, 4, 6));
        due("5 2", in.replace("leave 7; nop", "leave 7; endfinally").replace("%s", "nop"), h(FINALLY, 0, 2, 2, 7), h(FINALLY, 2, 4, 4, 6));
        // In a TEST: likewise.
        String test = "nop; leave 10; pop; nop; leave 7; nop; endfinally; num 1; endfilter; throw; ret";
        due("0 -1", test, h(FILTER, 0, 2, 9, 10, 2), h(FINALLY, 3, 5, 5, 7));
        due("5 6", test.replace("endfinally", "endfilter").replace("leave 7; nop", "leave 7; num 1"), h(FILTER, 0, 2, 9, 10, 2), h(FINALLY, 3, 5, 5, 7));
        due("5 4", test.replace("nop; leave 7", "num 1; endfilter"), h(FILTER, 0, 2, 9, 10, 2), h(FINALLY, 3, 5, 5, 7));
    }

    /** Into a PART: just to where a TRY begins, with the empty STATE. */
    private static void waysIn() {
        world();
        String code = "%s; nop; leave 5; nop; endfinally; ret; nop";
        int[] f = h(FINALLY, 1, 3, 3, 5);
        due("0 -1", String.format(code, "nop"), f);
        due("0 -1", String.format(code, "go 1"), f);
        due("0 -1", String.format(code, "leave 1"), f);
        due("5 0", String.format(code, "num 1"), f);
        due("5 0", String.format(code, "go 2"), f);
        due("5 0", String.format(code, "leave 2"), f);
        for (int p = 3; p <= 4; p++) for (String op : "go leave".split(" ")) due("5 0", String.format(code, op + " " + p), f);
        due("0 -1", String.format(code, "go 5"), f);
        due("0 -1", String.format(code, "leave 5"), f);
        // By "if": the next one first, then the other one; both with the STATE behind.
        String by = "num 1; %s; nop; leave 6; nop; endfinally; ret";
        due("0 -1", String.format(by, "if 2"), h(FINALLY, 2, 4, 4, 6));
        due("5 1", String.format(by, "if 3"), h(FINALLY, 2, 4, 4, 6));
        due("5 1", String.format(by, "if 4"), h(FINALLY, 2, 4, 4, 6));
        due("0 -1", String.format(by, "if 6"), h(FINALLY, 2, 4, 4, 6));
        due("5 2", "num 1; num 1; ifnot 4; go 0; nop; leave 7; endfinally; pop; ret", h(FINALLY, 4, 6, 6, 7));
        // From behind: back to where it begins, and into the middle of it.
        due("0 -1", "nop; leave 3; endfinally; go 0", h(FINALLY, 0, 2, 2, 3));
        due("5 3", "nop; leave 3; endfinally; go 1", h(FINALLY, 0, 2, 2, 3));
        due("5 4", "nop; leave 3; endfinally; num 1; go 0", h(FINALLY, 0, 2, 2, 3));
        // Two that begin at the same place, and one of both alone.
        due("0 -1", "nop; nop; leave 7; pop; leave 7; nop; endfinally; ret", h(CATCH, 1, 3, 3, 5), h(FINALLY, 1, 5, 5, 7));
        due("0 -1", "nop; nop; nop; leave 8; pop; leave 8; nop; endfinally; ret", h(CATCH, 2, 4, 4, 6), h(FINALLY, 1, 6, 6, 8));
        due("5 0", "go 2; nop; nop; leave 8; pop; leave 8; nop; endfinally; ret", h(CATCH, 2, 4, 4, 6), h(FINALLY, 1, 6, 6, 8));
        // 0 in a TRY, a BLOCK, a TEST.
        due("0 -1", "leave 1; ret; endfinally", h(FINALLY, 0, 1, 2, 3));
        due("5 0", "nop; ret; nop", h(FINALLY, 2, 3, 0, 1));
        due("5 0", "nop; ret; nop; nop", h(FILTER, 2, 3, 1, 2, 0));
        due("5 0", "add; ret; nop", h(CATCH, 2, 3, 0, 1));
        due("5 0", "go 0; leave 2; ret", h(CATCH, 1, 2, 0, 1));
        due("5 0", "go 0; ret; nop", h(FINALLY, 2, 3, 0, 1));
        due("5 0", "go 0; throw; leave 3; ret", h(FILTER, 2, 3, 1, 2, 0));
        due("5 0", "num 10000; throw; leave 3; ret", h(FILTER, 2, 3, 1, 2, 0));
        due("5 0", "add; ret; nop", h(CATCH, 2, 3, 0, 1));
        Due.is("33 0 has its STATE then, the others have none", c.state(m, 0) + "/" + c.state(m, 1), "/-");
    }

    /** Out of a PART: not by "go", "if", or to the next one. */
    private static void waysOut() {
        world();
        String code = "nop; %s; leave 8; %s; %s; nop; nop; nop; ret; ret";
        int[][] all = {h(CATCH, 0, 3, 3, 6), h(FINALLY, 0, 3, 3, 6), h(RESCUE, 0, 3, 3, 6)};
        for (int[] k : all) {
            String end = k[0] == CATCH ? "leave 8" : "endfinally";
            String begin = k[0] == CATCH ? "pop" : "nop";
            due("0 -1", String.format(code, "nop", begin, end), k);
            for (int p : new int[] {8, 9, 6}) {
                due("5 1", String.format(code, "go " + p, begin, end), k);
                due("5 4", String.format(code, "nop", begin, "go " + p), k);
            }
            due("5 5", String.format(code, "nop", begin, "nop"), k);
            due("5 4", String.format(code, "nop", begin, "go 0"), k);
            due("0 -1", String.format(code, "go 0", begin, end), k);
            due("0 -1", String.format(code, "nop", begin, "go 4"), k);
            if (k[0] != CATCH) for (int p : new int[] {8, 0}) due("5 4", String.format(code, "nop", begin, "leave " + p), k);
            due("5 2", String.format(code, "nop", begin, end).replace("leave 8; " + begin, "nop; " + begin), k);
            due("5 3", String.format("nop; num 1; nop; if 8; leave 8; %s; %s; nop; ret; ret", begin, end), k[0] == CATCH ? h(CATCH, 0, 5, 5, 7) : h(k[0], 0, 5, 5, 7));
        }
        // Beyond the last one is told ahead of that.
        due("6 2", "nop; leave 0; nop", h(FINALLY, 0, 2, 2, 3));
        due("6 2", "go 2; endfinally; nop", h(FINALLY, 2, 3, 1, 2));
    }

    private static void leaves() {
        world();
        // From the BLOCK of a CATCH or FILTER, but not of others, and not from a TEST: out of all, and back to where its TRY begins.
        due("0 -1", "nop; leave 4; pop; leave 0; ret", h(CATCH, 0, 2, 2, 4));
        due("5 3", "nop; leave 4; pop; leave 1; ret", h(CATCH, 0, 2, 2, 4));
        due("0 -1", "nop; leave 6; codeof; endfilter; pop; leave 0; ret", h(FILTER, 0, 2, 4, 6, 2));
        due("5 5", "nop; leave 6; codeof; endfilter; pop; leave 2; ret", h(FILTER, 0, 2, 4, 6, 2));
        due("5 3", "nop; leave 6; codeof; leave 6; pop; leave 0; ret", h(FILTER, 0, 2, 4, 6, 2));
        due("5 3", "nop; leave 6; codeof; leave 0; pop; leave 0; ret", h(FILTER, 0, 2, 4, 6, 2));
        due("5 3", "nop; leave 6; codeof; leave 4; pop; leave 0; ret", h(FILTER, 0, 2, 4, 6, 2));
        due("0 -1", "nop; leave 7; pop; leave 4; num 1; endfilter; throw; ret", h(FILTER, 0, 2, 6, 7, 2));
        due("0 -1", "leave 1; leave 0; nop; endfinally", h(FINALLY, 0, 2, 2, 4));
        due("0 -1", "nop; leave 0; nop; endfinally", h(FINALLY, 0, 2, 2, 4));
        // Inside of one PART anywhere; from no PART into none.
        due("0 -1", "nop; leave 4; nop; leave 2; ret", h(FINALLY, 0, 2, 2, 4));
        due("0 -1", "leave 2; nop; ret", new int[0][]);
    }

    /** With a TRY in a TRY, a BLOCK, a TEST. */
    private static void nested() {
        world();
        // TRY 0-7 has TRY 1-3 and its BLOCK 3-5; BLOCK 8-9.
        int[] in = h(CATCH, 1, 3, 3, 5);
        int[] out = h(FINALLY, 0, 8, 8, 10);
        String code = "nop; nop; %s; pop; %s; nop; nop; leave 10; nop; endfinally; ret";
        due("0 -1", String.format(code, "leave 5", "leave 5"), in, out);
        due("0 -1", String.format(code, "leave 10", "leave 10"), in, out);
        due("0 -1", String.format(code, "leave 0", "leave 1"), in, out);
        due("5 2", String.format(code, "go 5", "leave 5"), in, out);
        due("5 2", String.format(code, "leave 8", "leave 5"), in, out);
        due("5 4", String.format(code, "leave 5", "leave 9"), in, out);
        due("5 4", String.format(code, "leave 5", "leave 2"), in, out);
        due("5 2", String.format(code, "leave 3", "leave 5"), in, out);
        due("5 4", String.format(code, "leave 5", "nop"), in, out);
        // A "leave" out of a TRY in the BLOCK of a FINALLY goes no farther than that BLOCK.
        String deep = "nop; leave 8; nop; %s; pop; %s; nop; endfinally; ret";
        due("0 -1", String.format(deep, "leave 6", "leave 7"), h(FINALLY, 0, 2, 2, 8), h(CATCH, 2, 4, 4, 6));
        due("5 3", String.format(deep, "leave 8", "leave 7"), h(FINALLY, 0, 2, 2, 8), h(CATCH, 2, 4, 4, 6));
        due("5 5", String.format(deep, "leave 6", "leave 8"), h(FINALLY, 0, 2, 2, 8), h(CATCH, 2, 4, 4, 6));
        due("5 5", String.format(deep, "leave 6", "leave 0"), h(FINALLY, 0, 2, 2, 8), h(CATCH, 2, 4, 4, 6));
        // In the BLOCK of a CATCH it may go out of both.
        due("0 -1", "nop; leave 8; pop; nop; leave 8; pop; leave 8; leave 8; ret", h(CATCH, 0, 2, 2, 8), h(CATCH, 3, 5, 5, 7));
    }

    /** Of two ERRORS at one place the first one: the number ahead of the PART, that ahead of the stack, that ahead of the way. */
    private static void first() {
        world();
        due("1 1", "nop; arg 9; nop; endfinally; ret", h(FINALLY, 0, 2, 2, 4));
        due("1 1", "nop; leave 9; nop; endfinally; ret", h(FINALLY, 0, 2, 2, 4));
        due("5 2", "num 1; nop; ret; nop; endfinally; ret", h(FINALLY, 0, 3, 3, 5));
        due("2 0", "add; leave 4; nop; endfinally; ret", h(FINALLY, 0, 2, 2, 4));
        due("3 1", "null; out; nop; endfinally; ret", h(FINALLY, 0, 2, 2, 4));
        // kind 4 at the place of a HANDLER ahead of the way: a BLOCK is come back to with less than it has.
        due("4 2", "nop; leave 5; pop; go 2; nop; ret", h(CATCH, 0, 2, 2, 5));
        due("4 2", "nop; leave 5; pop; num 1; go 2; ret", h(CATCH, 0, 2, 2, 5));
        due("0 -1", "nop; leave 5; pop; null; go 2; ret", h(CATCH, 0, 2, 2, 5));
        // A HANDLER that was told more by a way comes again, as the TRY is looked at again: it stays what both go together to.
        due("0 -1", "nop; leave 6; pop; make 1; go 2; nop; ret", h(CATCH, 0, 2, 2, 6));
        Due.is("33 FAULT and OBJECT", c.state(m, 2), "object");
    }

    private static void states() {
        world();
        String code = "nop; leave 8; pop; leave 8; codeof; endfilter; pop; leave 8; ret";
        code(code, h(CATCH, 0, 2, 2, 4, f1), h(FILTER, 0, 2, 6, 8, 4));
        Due.is("31 RIGHT", error(), "0 -1");
        Due.is("33 CATCH, TEST, BLOCK of a FILTER", Due.states(c, m), "; ; t1; ; fault; int; fault; ; ");
        code("nop; leave 4; nop; endfinally; ret", h(FINALLY, 0, 2, 2, 4));
        Due.is("33 FINALLY", Due.states(c, m), "; ; ; ; ");
        code("nop; leave 4; nop; endfinally; ret", h(RESCUE, 0, 2, 2, 4));
        Due.is("33 RESCUE", Due.states(c, m), "; ; ; ; ");
        // What the TRY has on its stack does not count; a TRY that is never come to gives its BLOCK no STATE.
        code("num 1; null; make 1; leave 7; pop; leave 7; nop; ret", h(CATCH, 0, 4, 4, 6, f2ofInt));
        Due.is("33 its EXPRESSION alone", Due.states(c, m), "; int; int null; int null object; t2<int>; ; -; ");
        code("ret; nop; leave 5; pop; leave 5; ret", h(CATCH, 1, 3, 3, 5));
        Due.is("33 never come to", Due.states(c, m), "; -; -; -; -; -");
        // By the first INSTRUCTION of the TRY that is looked at, also by one that throws or ends something.
        code("null; throw; pop; leave 4; ret", h(CATCH, 1, 2, 2, 4));
        Due.is("31 into a TRY with something", error(), "5 0");
        Due.is("33 not come to", Due.states(c, m), "; -; -; -; -");
        code("go 1; go 1; pop; leave 4; ret", h(CATCH, 1, 2, 2, 4));
        Due.is("33 by one that goes round", Due.states(c, m), "; ; fault; ; ");
        m = c.method(2, 1, 1, -1);
        code("nop; leave 4; pop; leave 4; ret", h(CATCH, 0, 2, 2, 4, f2));
        Due.is("33 with T", Due.states(c, m), "; ; t2<T>; ; ");
    }

    private static void statesOfHandlers() {
        world();
        // The HANDLERS of the first INSTRUCTION get their STATES ahead of the next one, also if that is an ERROR.
        code("num 1; ret; pop; leave 6; nop; endfinally; ret", h(CATCH, 0, 2, 2, 4), h(FINALLY, 0, 4, 4, 6));
        Due.is("31 \"ret\" in a TRY", error(), "5 1");
        Due.is("33 they have them", Due.states(c, m), "; int; fault; -; ; -; -");
        code("add; ret; pop; leave 4; ret", h(CATCH, 0, 2, 2, 4));
        Due.is("33 not by what is an ERROR itself", Due.states(c, m), "; -; -; -; -");
        code("go 4; ret; pop; leave 4; ret", h(CATCH, 0, 2, 2, 4));
        Due.is("31 a way that is not let", error(), "5 0");
        Due.is("33 by what leads nowhere", Due.states(c, m), "; -; fault; -; -");
        code("num 1; if 5; nop; leave 5; throw; ret", h(CATCH, 0, 4, 4, 5));
        Due.is("31 the other one is not let", error(), "5 1");
        Due.is("33 the next one has its STATE", Due.states(c, m), "; int; ; -; fault; -");
    }
}
