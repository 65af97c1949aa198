/** What went leaves nothing: behind clear(), sample(), unhandle(), cut(), runs and WALKS all is as if it had never been. */
public final class LeftoverTest {
    public static void main(String[] args) {
        samples();
        smaller();
        handlers();
        instructions();
        numbers();
        Due.end("LeftoverTest");
    }

    /** Each SAMPLE behind each other one, with runs and a WALK between. */
    private static void samples() {
        Cellruntime c = new Cellruntime();
        for (int one = 0; one < 8; one++) for (int other = 0; other < 8; other++) {
            c.sample(one);
            int m = c.methods() - 1;
            c.run(m, 1, 3, 0, 0);
            c.walk(m, 3, 0, 0);
            c.step(12);
            c.sample(other);
            Cellruntime d = new Cellruntime();
            d.sample(other);
            Due.is("16 " + other + " behind " + one, Told.made(c), Told.made(d));
            int n = c.methods() - 1;
            c.run(n, 1, 2, 0, 0);
            d.run(n, 1, 2, 0, 0);
            for (int k = 0; k <= 4; k++) Due.is("39 " + k + " of " + other + " behind " + one, c.ofRun(k), d.ofRun(k));
            Due.is("38 of " + other + " behind " + one, c.out(), d.out());
        }
    }

    /** TYPES with all that they can have; then the same numbers with nothing. */
    private static void smaller() {
        Cellruntime c = new Cellruntime();
        Cellruntime d = new Cellruntime();
        c.type(2, false, -1, -1);
        int i = c.expr(0, 0, 0);
        c.type(2, false, -1, -1);
        int j = c.expr(0, 1, 0);
        c.type(0, true, i, 2);
        c.expr(1, 2, 3);
        c.implement(2, i);
        c.implement(2, j);
        for (int k = 0; k < 4; k++) c.field(2, 0, k == 2);
        for (int m = 0; m < 24; m++) {
            c.method(2, m % 2, 2, 0);
            for (int k = 0; k < 3; k++) c.param(m, 0);
            for (int k = 0; k < 4; k++) c.local(m, 1);
            for (int k = 0; k < 40; k++) c.code(m, 1, 1, 1);
            for (int k = 0; k < 4; k++) c.handler(m, k, 0, 1, 1, 2);
        }
        Due.is("15 three TYPES", c.clear(), 3);
        for (Cellruntime e : new Cellruntime[] {c, d}) {
            e.type(2, false, -1, -1);
            e.expr(0, 0, 0);
            e.type(2, false, -1, -1);
            e.expr(0, 1, 0);
            e.type(0, false, -1, 1);
            e.expr(0, 2, 0);
            e.method(0, 0, 2, 0);
            for (int k = 0; k < 3; k++) e.param(0, 0);
            e.method(2, 0, 0, 0);
        }
        Due.is("15 as new", Told.made(c), Told.made(d));
        Due.is("25 no ANSWER is left", c.answer(6, 0, 4), -1);
        Due.is("23 no CONTRACT is left", c.keeps(6, 4, -1) || c.keeps(6, 5, -1), false);
        Due.fails("26 no FIELD is left", Due.INDEX, () -> c.ofField(0, 0));
        Due.is("31 no INSTRUCTION is left", c.error(1) + " " + c.errorPlace(1), "6 0");
        c.code(1, 1, 5, 0);
        c.code(1, 25, 0, 0);
        Due.is("31 no HANDLER is left", c.error(1), 0);
        Due.is("37 it runs", c.run(1, 0, 0, 0, 0) + " " + c.ofRun(3), "0 5");
        c.walk(1, 7, 7, 7);
        Due.fails("48 no PARAMETER is left", Due.INDEX, () -> c.value(0, 0, 0));
        Due.fails("48 no LOCAL is left", Due.INDEX, () -> c.value(0, 1, 0));
    }

    /** A HANDLER that went is not seen, not meant, not done. */
    private static void handlers() {
        for (int kind = 0; kind <= 3; kind++) {
            Cellruntime c = new Cellruntime();
            c.type(0, false, -1, 1);
            int m = c.method(0, 0, 0, 0);
            c.param(m, 0);
            Due.write(c, m, "arg 0; ifnot 4; null; throw; leave 11; num 1; out; go 11; nop; nop; nop; num 3; ret");
            c.handler(m, kind, 0, 5, 5, 8);
            if (kind == 1) c.handles(m, 0, 8);
            c.unhandle(m);
            Due.is("31 without it", c.error(m), 0);
            Due.is("33 its BLOCK is never come to", c.state(m, 5), "-");
            Due.is("37 thrown", Due.run(c, m, 1, 0, 0), "1 1 0 []");
            Due.is("37 left", Due.run(c, m, 0, 0, 0), "0 0 3 []");
            // Where it was, 0 lies in no PART any more.
            c.handler(m, kind, 5, 8, 0, 5);
            if (kind == 1) c.handles(m, 0, 8);
            Due.is("31 with one that has 0 in its BLOCK", c.error(m) != 0, true);
            c.unhandle(m);
            Due.is("31 it went", c.error(m), 0);
            Due.fails("30 it went", Due.INDEX, () -> c.ofHandler(m, 0, 0));
            // Another one in its place.
            c.handler(m, 2, 0, 5, 8, 10);
            c.change(m, 9, 49, 0, 0);
            Due.is("30 the other one", c.ofHandler(m, 0, 0) + " " + c.ofHandler(m, 0, 5), "2 -1");
            Due.is("37 the other one", Due.run(c, m, 1, 0, 0), "1 1 0 []");
        }
    }

    private static void instructions() {
        Cellruntime c = new Cellruntime();
        c.type(0, false, -1, 1);
        int m = c.method(0, 0, 0, 0);
        Due.write(c, m, "num 1; num 2; add; ret");
        Due.is("37 ahead", Due.run(c, m, 0, 0, 0), "0 0 3 []");
        c.cut(m, 3);
        Due.is("31 just one is left", c.error(m) + " " + c.errorPlace(m), "6 0");
        c.code(m, 25, 0, 0);
        Due.is("33 the one behind it is gone", Due.states(c, m), "; int");
        Due.is("37 behind", Due.run(c, m, 0, 0, 0), "0 0 1 []");
        c.change(m, 0, 16, 2, 0);
        Due.is("31 no place behind it", c.error(m) + " " + c.errorPlace(m), "1 0");
        c.change(m, 0, 1, 9, 0);
        for (int k = 0; k < 2; k++) {
            Due.is("37 changed", Due.run(c, m, 0, 0, 0), "0 0 9 []");
            Due.is("37 by WAY 1 " + k, c.run(m, 1, 0, 0, 0) + " " + c.ofRun(3), "0 9");
        }
        c.change(m, 0, 1, 8, 0);
        Due.is("37 by WAY 1, as it is changed", c.run(m, 1, 0, 0, 0) + " " + c.ofRun(3), "0 8");
    }

    /** EXPRESSIONS that come up as something is checked, asked or run are not numbered; as one of them is made it is the next one. */
    private static void numbers() {
        Cellruntime c = new Cellruntime();
        c.type(0, true, -1, 1);
        int g = c.expr(1, 0, 3);
        int f = c.field(0, c.expr(2, 3, 0), false);
        c.type(0, false, -1, 1);
        int gInt = c.expr(1, 0, 0);
        int m = c.method(1, 0, 0, -1);
        c.local(m, 0);
        Due.write(c, m, "locp 0; pop; make " + gInt + "; getp " + f + " " + gInt + "; pop; num 1; row " + gInt + "; pop; ret");
        Due.is("19 those that were made", c.exprs(), 7);
        Due.is("33 others came up", Due.states(c, m), "; int&!; ; t0<int>; int[]&; ; int; t0<int>[]; ");
        Due.is("25 also so", c.answer(gInt, m, c.expr(0, 1, 0)), -1);
        for (int way = 0; way <= 1; way++) c.run(m, way, 0, 0, 0);
        c.walk(m, 0, 0, 0);
        c.step(4);
        c.areSame(m, 0, 0, 0);
        c.isSound();
        c.digest();
        Due.is("19 none of them is numbered", c.exprs(), 8);
        int[][] made = {{3, 0}, {2, 0}, {2, gInt}, {3, 9}, {3, gInt}, {2, g}};
        String[] texts = {"int&", "int[]", "t0<int>[]", "int[]&", "t0<int>&", "t0<T>[]"};
        for (int k = 0; k < made.length; k++) {
            Due.is("3 the next number: " + texts[k], c.expr(made[k][0], made[k][1], 0), 8 + k);
            Due.is("19 one more", c.exprs(), 9 + k);
            Due.is("20 its text", c.exprText(8 + k), texts[k]);
            Due.is("31 it is RIGHT still", c.error(m), 0);
            Due.is("33 as before", c.state(m, 4), "int[]&");
            c.run(m, k % 2, 0, 0, 0);
            Due.is("3 that again", c.expr(made[k][0], made[k][1], 0), 8 + k);
        }
    }
}
