/** Promises 35 to 55 at their edges: WALKS and what is told of them, texts, LIMIT on the way, PINS, collections, the whole. */
public final class WalkEdgesTest {
    private static final int MIN = Integer.MIN_VALUE, MAX = Integer.MAX_VALUE;
    private static Cellruntime c;

    public static void main(String[] args) {
        begins();
        steps();
        stops();
        ends();
        textsOfValues();
        textsOfPlaces();
        textsOfThings();
        frames();
        reached();
        limits();
        limitsBelow();
        pins();
        pinsThatStay();
        collections();
        shares();
        houses();
        knocks();
        digests();
        Due.end("WalkEdgesTest");
    }

    /** t0, a CLASS of object with the EXPRESSION 4, and m0, STATIC, given three INTS, with RESULT INT. */
    private static void world(int... locals) {
        c = new Cellruntime();
        c.type(0, false, -1, 1);
        c.expr(0, 0, 0);
        c.method(0, 0, 0, 0);
        for (int k = 0; k < 3; k++) c.param(0, 0);
        for (int x : locals) c.local(0, x);
    }

    private static int method(int type, int name, int mode, int result, String code, int... given) {
        int m = c.method(type, name, mode, result);
        for (int x : given) c.param(m, x);
        Due.write(c, m, code);
        return m;
    }

    private static void write(String code) {
        c.cut(0, c.ofMethod(0, 6));
        Due.write(c, 0, code);
        Due.is("31 error of " + code, c.error(0) + " " + c.errorPlace(0), "0 -1");
    }

    /** A WALK through the code, so many STEPS far. */
    private static void walk(String code, int steps, int... given) {
        write(code);
        int[] all = new int[3];
        System.arraycopy(given, 0, all, 0, given.length);
        Due.is("41 a WALK", c.walk(0, all[0], all[1], all[2]), 0);
        if (steps > 0) Due.is("42 so many", c.step(steps), steps);
    }

    private static String facts() {
        StringBuilder all = new StringBuilder();
        for (int k = 0; k <= 8; k++) all.append(k > 0 ? " " : "").append(c.ofWalk(k));
        return all.toString();
    }

    private static String stack(int frame) {
        StringBuilder all = new StringBuilder();
        for (int k = 0; k < c.ofFrame(frame, 2); k++) all.append(k > 0 ? " " : "").append(c.value(frame, 2, k));
        return all.toString();
    }

    private static String things() {
        StringBuilder all = new StringBuilder();
        for (int k = 0; c.reached(k) >= 0; k++) all.append(k > 0 ? " " : "").append(c.reached(k)).append(c.thing(c.reached(k)));
        return all.toString();
    }

    private static void begins() {
        world(0, 1);
        walk("num 5; out; arg 0; ret", 0, MIN, MAX, -1);
        Due.is("44 ahead of all STEPS", facts(), "1 -1 0 0 0 1 0 0 0");
        Due.is("45 nothing is told", c.walkOut(), "");
        Due.is("46 its FRAME", c.ofFrame(0, 0) + " " + c.ofFrame(0, 1) + " " + c.ofFrame(0, 2) + " " + c.holder(0), "0 0 0 t0");
        Due.is("48 what is given", c.value(0, 0, 0) + " " + c.value(0, 0, 1) + " " + c.value(0, 0, 2), MIN + " " + MAX + " -1");
        Due.is("48 LOCALS at first", c.value(0, 1, 0) + " " + c.value(0, 1, 1), "0 null");
        Due.is("51 a collection of nothing", c.collect(), 0);
        Due.is("49 nothing", things(), "");
        // What is beyond what it is given is not asked.
        int one = method(0, 1, 0, 0, "arg 0; ret", 0);
        c.walk(one, 3, MAX, MIN);
        Due.is("48 one of three", c.value(0, 0, 0), "3");
        Due.fails("48 no second one", Due.INDEX, () -> c.value(0, 0, 1));
        c.step(600);
        Due.is("44 RESULT", c.ofWalk(4), 3);
        for (int many = 0; many <= 3; many++) {
            int given = method(0, 1, 0, -1, "ret");
            for (int k = 0; k < many; k++) c.param(given, 0);
            for (int k = 0; k < 4; k++) c.local(given, 0);
            c.walk(given, -3, MAX, MIN);
            for (int k = 0; k < many; k++) Due.is("48 given " + many, c.value(0, 0, k), "" + new int[] {-3, MAX, MIN}[k]);
            for (int k = 0; k < 4; k++) Due.is("48 its LOCALS are 0", c.value(0, 1, k), "0");
        }
        int none = method(0, 1, 0, -1, "ret");
        c.walk(none, 3, MAX, MIN);
        Due.fails("48 none", Due.INDEX, () -> c.value(0, 0, 0));
        Due.fails("48 no LOCAL", Due.INDEX, () -> c.value(0, 1, 0));
        Due.is("42 its one STEP", c.step(600), 1);
        Due.is("44 its END", facts(), "0 0 0 1 0 0 0 0 0");
    }

    private static void steps() {
        world();
        write("num 1; num 2; add; ret");
        for (int many = 1; many <= 5; many++) {
            c.walk(0, 0, 0, 0);
            Due.is("42 of 4: " + many, c.step(many), Math.min(many, 4));
            Due.is("44 STEPS", c.ofWalk(3), Math.min(many, 4));
            Due.is("44 it GOES ON", c.ofWalk(0) + " " + c.ofWalk(1), many < 4 ? "1 -1" : "0 0");
            Due.is("42 the others", c.step(600), Math.max(4 - many, 0));
            Due.is("42 no more", c.step(1), 0);
            Due.is("44 RESULT", c.ofWalk(4), 3);
        }
        c.walk(0, 0, 0, 0);
        c.step(3);
        Due.is("44 RESULT ahead of the END", c.ofWalk(4), 0);
        write("go 0");
        c.walk(0, 0, 0, 0);
        for (int k = 1; k <= 2; k++) Due.is("42 of 600", c.step(299), 299);
        Due.is("42 up to the END", c.step(3), 2);
        Due.is("44 CUT", facts(), "0 2 0 600 0 1 0 0 0");
        c.walk(0, 0, 0, 0);
        Due.is("42 all at once", c.step(600), 600);
        Due.is("42 none behind it", c.step(600), 0);
    }

    private static void stops() {
        world();
        Due.is("43 none", c.stop(), 0);
        walk("num 1; ret", 1);
        Due.is("43 one on its way", c.stop(), 1);
        Due.is("43 it is gone", c.stop(), 0);
        Due.fails("44 it is gone", Due.STATE, () -> c.ofWalk(0));
        walk("num 1; ret", 2);
        Due.is("44 one with an END is there still", c.ofWalk(0) + " " + c.walkOut(), "0 ");
        Due.is("43 it, too", c.stop(), 1);
        walk("num 1; ret", 1);
        c.walk(0, 0, 0, 0);
        Due.is("41 instead of the other one", c.ofWalk(3), 0);
        Due.is("43 there is one at most", c.stop() + " " + c.stop(), "1 0");
    }

    /** Behind an END there is no FRAME, but behind CUT; STATICS, PINS and the FAULT that is UNCAUGHT stay. */
    private static void ends() {
        world(1);
        int f = c.field(0, 1, true);
        String made = "make 1; setloc 0; make 1; sets " + f + " 4; make 4; pin; num 7; out; ";
        walk(made + "num 3; ret", 8);
        Due.is("44 on its way", facts(), "1 -1 0 8 0 1 3 6 1");
        c.step(600);
        Due.is("44 DONE", facts(), "0 0 0 10 3 0 2 4 1");
        Due.is("49 a STATIC and a PIN", things(), "2{} 3{}");
        Due.fails("46 no FRAME", Due.INDEX, () -> c.ofFrame(0, 0));
        Due.fails("47 no FRAME", Due.INDEX, () -> c.holder(0));
        Due.fails("48 no FRAME", Due.INDEX, () -> c.value(0, 1, 0));
        Due.is("45 OUT", c.walkOut(), "7");
        Due.is("51 behind the END", c.collect() + " " + c.isSound(), "4 true");
        walk(made + "make 2; dup; num -4; setcode; throw", 13);
        Due.is("44 UNCAUGHT", facts(), "0 1 -4 13 0 0 3 7 1");
        Due.is("49 and its FAULT", things(), "2{} 3{} 4{-4}");
        walk(made + "go 8", 600);
        Due.is("44 CUT", facts(), "0 2 0 600 0 1 3 6 1");
        Due.is("48 the LOCAL", c.value(0, 1, 0) + " " + things(), "object#1 1{} 2{} 3{}");
        Due.is("51 behind CUT", c.collect() + " " + c.isSound() + " " + c.value(0, 1, 0), "6 true object#1");
    }

    private static void textsOfValues() {
        world();
        int none = c.expr(0, c.type(1, false, -1, -1), 0);
        int one = c.expr(0, c.type(1, false, -1, -1), 0);
        int two = c.expr(0, c.type(1, false, -1, -1), 0);
        c.field(2, 0, false);
        c.field(2, 0, true);
        c.field(3, none, false);
        c.field(3, 1, false);
        c.field(3, one, false);
        for (int x : new int[] {none, one, two}) c.local(0, x);
        walk("arg 0; arg 1; null; loc 0; loc 1; loc 2; num -9999; make 4; pop; pop; pop; pop; pop; pop; pop; ret", 8, MIN, MAX);
        Due.is("48 digits, null, STRUCTS", stack(0), MIN + " " + MAX + " null () (0) ((),null,(0)) -9999 t0#1");
        int rowInt = c.expr(2, 0, 0);
        int rows = c.expr(2, rowInt, 0);
        walk("num 0; row 0; num 12; row " + rowInt + "; num 0; box 0; loc 0; box " + none + "; loc 2; box " + two + "; make 2; throw", 11);
        Due.is("48 THINGS", stack(0), "int[]#1 int[][]#2 int#3 t1#4 t3#5 fault#6");
        Due.is("50 THINGS", things(), "1[] 2[null,null,null,null,null,null,null,null,null,null,null,null] 3<0> 4<()> 5<((),null,(0))> 6{0}");
        Due.is("20 its text", c.exprText(rows), "int[][]");
    }

    /** "&" and the text of what lies there: in a PARAMETER, a LOCAL, a STATIC, an object, a BOX, a ROW, a STRUCT. */
    private static void textsOfPlaces() {
        world();
        int s = c.expr(0, c.type(1, false, -1, -1), 0);
        c.field(1, 0, false);
        c.field(1, 1, false);
        c.field(0, s, false);
        c.field(0, 1, true);
        c.local(0, s);
        c.local(0, 4);
        walk("locp 0; num 5; set 0 " + s + "; argp 0; locp 0; locp 0; getp 0 " + s + "; locp 1; getsp 3 4; make 4; getp 2 4; num 2; row " + s + "; num 1; atp " + s
            + "; getp 1 " + s + "; loc 0; box " + s + "; unbox " + s + "; pop; pop; pop; pop; pop; pop; pop; pop; num 1; ret", 19, 7);
        Due.is("48 PLACES", stack(0), "&7 &(5,null) &5 &null &null &(0,null) &null &(5,null)");
        Due.is("49 what they lead to", things(), "1{(0,null)} 2[(0,null),(0,null)] 3<(5,null)>");
        walk("locp 1; make 4; store 4; locp 1; getsp 3 4; make 2; store 1; getsp 3 4; pop; pop; num 1; ret", 8);
        Due.is("48 to REFERENCES", stack(0), "&t0#1 &fault#2");
        Due.is("51 a collection", c.collect() + " " + stack(0), "7 &t0#1 &fault#2");
    }

    private static void textsOfThings() {
        world();
        int s = c.expr(0, c.type(1, false, -1, -1), 0);
        c.field(1, 0, false);
        c.field(1, 1, false);
        int f = c.expr(0, c.type(0, false, -1, 2), 0);
        c.field(2, s, false);
        c.field(2, 0, true);
        int g = c.expr(0, c.type(0, false, -1, f), 0);
        int h = c.expr(0, c.type(0, false, -1, g), 0);
        c.field(4, 1, false);
        c.field(4, 0, false);
        int d = c.expr(0, c.type(3, false, -1, -1), 0);
        c.method(5, 0, 2, -1);
        int own = method(0, 1, 1, -1, "ret");
        int still = method(0, 1, 0, -1, "ret");
        walk("make " + f + "; make " + g + "; make " + h + "; dup; num 3; setcode; dup; num 4; set 5 " + h + "; make 4; bind " + own + " " + d + "; bind " + still + " " + d
            + "; pop; pop; pop; pop; pop; num 1; ret", 12);
        Due.is("50 those of the last BASE first, CODE ahead of all", things(), "1{0,(0,null)} 2{0,(0,null)} 3{3,(0,null),null,4} 4{} 5m" + own + "(t0#4) 6m" + still + "()");
        Due.is("44 CELLS", c.ofWalk(7), 5 + 5 + 7 + 2 + 5 + 5);
        for (int n : new int[] {MIN, -1, 0, 7, 8, 600, 601, 602, 603, MAX}) Due.is("50 no THING " + n, c.thing(n), "-");
        // Each kind of THING behind each other one.
        c.field(0, 1, false);
        int row = c.expr(2, 1, 0);
        walk("make 4; make 2; dup; num 3; setcode; make " + h + "; dup; num 5; setcode; num 2; row 1; num 9; box 0; make 4; dup; dup; set 6 4; num 0; row " + row
            + "; pop; pop; pop; pop; pop; pop; pop; num 1; ret", 19);
        String[] want = {"{null}", "{3}", "{5,(0,null),null,0}", "[null,null]", "<9>", "{t0#6}", "[]"};
        for (int one = 0; one < 7; one++) for (int other = 0; other < 7; other++) Due.is("50 " + other + " behind " + one, c.thing(one + 1) + c.thing(other + 1), want[one] + want[other]);
    }

    /** FRAMES from the lowest one on; places below are those of the calls. */
    private static void frames() {
        world();
        int t = c.type(0, true, -1, 1);
        int gT = c.expr(1, t, 3);
        int gg = c.expr(1, t, c.expr(2, 3, 0));
        int gInt = c.expr(1, t, 0);
        int last = method(t, 1, 0, -1, "loc 0; pop; ret", 3);
        c.local(last, c.expr(2, 3, 0));
        int first = method(t, 1, 0, -1, "null; call " + last + " " + gg + "; ret");
        write("num 4; num 5; call " + first + " " + gInt + "; pop; ret");
        c.walk(0, 0, 0, 0);
        c.step(6);
        String[] want = {"0 2 2 t0", first + " 1 0 t1<int>", last + " 1 1 t1<int[]>"};
        for (int k = 0; k < 3; k++) Due.is("46 FRAME " + k, c.ofFrame(k, 0) + " " + c.ofFrame(k, 1) + " " + c.ofFrame(k, 2) + " " + c.holder(k), want[k]);
        Due.fails("46 no FRAME 3", Due.INDEX, () -> c.ofFrame(3, 0));
        Due.is("48 of the one on top", c.value(2, 0, 0) + " " + c.value(2, 1, 0) + " " + c.value(2, 2, 0), "null null null");
        Due.fails("48 no PARAMETER", Due.INDEX, () -> c.value(2, 0, 1));
        Due.fails("48 no LOCAL", Due.INDEX, () -> c.value(2, 1, 1));
        Due.fails("48 no entry", Due.INDEX, () -> c.value(2, 2, 1));
        Due.fails("48 no entry of the one below", Due.INDEX, () -> c.value(1, 2, 0));
        Due.is("48 entries of the lowest one", stack(0), "4 5");
        c.step(2);
        Due.is("46 it went", c.ofWalk(5) + " " + c.ofFrame(1, 1), "2 2");
        c.step(1);
        Due.is("46 and the next one", c.ofWalk(5) + " " + c.ofFrame(0, 1), "1 3");
        Due.is("20 its text", c.exprText(gT), "t1<T>");
    }

    private static void reached() {
        world();
        walk("make 1; make 1; pop; make 1; make 1; pop; make 1; pop; pop; pop; num 1; ret", 7);
        Due.is("49 by rising numbers", c.reached(0) + " " + c.reached(1) + " " + c.reached(2), "1 3 5");
        for (int k : new int[] {MIN, -1, 3, 4, 600, MAX}) Due.is("49 none: " + k, c.reached(k), -1);
        Due.is("50 those that are not", c.thing(2) + c.thing(4) + c.thing(6), "---");
        Due.is("50 those that are", c.thing(1) + c.thing(3) + c.thing(5), "{}{}{}");
        c.collect();
        Due.is("49 the numbers stay", c.reached(0) + " " + c.reached(1) + " " + c.reached(2) + " " + c.reached(3), "1 3 5 -1");
        c.step(3);
        Due.is("49 none", c.reached(0) + " " + c.ofWalk(6) + " " + c.ofWalk(7), "-1 0 0");
    }

    /** A WALK that GOES ON looks at LIMIT as it is told then. */
    private static void limits() {
        world(1);
        String code = "num 12; row 0; setloc 0; num 3; row 0; pop; num 1; ret";
        // 15 and 6 CELLS.
        for (int limit : new int[] {20, 21, 22, 200}) {
            c.limit(120);
            walk(code, 4);
            Due.is("35 LIMIT", c.limit(limit), 120);
            Due.is("44 nothing else", facts(), "1 -1 0 4 0 1 1 15 0");
            c.step(600);
            Due.is("44 with " + limit, c.ofWalk(1) + " " + c.ofWalk(2), limit < 21 ? "1 5" : "0 0");
        }
        for (int limit : new int[] {20, 21, 120, 200}) {
            c.limit(limit);
            walk(code, 4);
            c.step(600);
            Due.is("44 begun with " + limit, c.ofWalk(1) + " " + c.ofWalk(2), limit < 21 ? "1 5" : "0 0");
        }
        c.limit(200);
        walk("num 12; row 1; setloc 0; num 12; row 1; num 12; row 1; num 12; row 1; num 12; row 1; num 12; row 1; num 12; row 1; num 12; row 1; pop; pop; pop; pop; pop; pop; pop; num 1; ret", 17);
        Due.is("44 as much as LIMIT of then", c.ofWalk(7), 120);
        c.limit(20);
        walk(code, 4);
        c.limit(21);
        c.step(600);
        Due.is("44 more than as it began", c.ofWalk(1), 0);
        // LIMIT of a WALK that began is that of its own time; a run has the one of now.
        walk(code, 4);
        c.limit(20);
        Due.is("37 a run", c.run(0, 0, 0, 0, 0) + " " + c.ofRun(1), "1 5");
        Due.is("40 four runs", c.areSame(0, 0, 0, 0), true);
        c.limit(21);
        Due.is("37 another one", c.run(0, 1, 0, 0, 0), 0);
        c.step(600);
        Due.is("44 the WALK", c.ofWalk(1), 0);
    }

    /** LIMIT below what is there: that stays, and what has room always has it. */
    private static void limitsBelow() {
        world(1, 1);
        walk("num 12; row 0; setloc 0; num 12; row 0; setloc 1; nop; num 1; num 0; div; ret", 7);
        c.limit(20);
        Due.is("44 more CELLS than LIMIT", c.ofWalk(7) + " " + c.house(4), "30 20");
        Due.is("51 a collection takes none of them", c.collect(), 30);
        Due.is("54 sound", c.isSound(), true);
        c.step(600);
        Due.is("44 a FAULT has room", facts(), "0 1 4 10 0 0 1 3 0");
        for (String made : "make 1,num 0; row 0,num 1; box 0".split(",")) {
            c.limit(120);
            walk("num 12; row 0; setloc 0; num 12; row 0; setloc 1; nop; " + made + "; pop; num 1; ret", 7);
            c.limit(20);
            c.step(600);
            Due.is("44 no room for " + made, c.ofWalk(1) + " " + c.ofWalk(2), "1 5");
        }
        c.limit(120);
        walk("num 12; row 0; setloc 0; num 12; row 0; setloc 1; nop; loc 0; box 1; pop; num 1; ret", 7);
        c.limit(20);
        c.step(600);
        Due.is("44 \"box\" of a REFERENCE makes nothing", c.ofWalk(1), 0);
    }

    private static void pins() {
        world(1);
        walk("null; pin; make 1; pin; make 1; pin; make 1; pin; make 1; pin; make 1; pin; unpin; make 1; pin; unpin; unpin; unpin; unpin; unpin; make 1; pin; num 1; ret", 0);
        int[] at = {2, 4, 6, 8, 10, 12, 13, 15, 16, 17, 18, 19, 20, 22};
        int[] many = {0, 1, 2, 3, 4, 4, 3, 4, 3, 2, 1, 0, 0, 1};
        int done = 0;
        for (int k = 0; k < at.length; k++) {
            done += c.step(at[k] - done);
            Due.is("44 PINS behind " + done, c.ofWalk(8), many[k]);
            Due.is("54 sound", c.isSound(), true);
            Due.is("44 their CELLS", c.ofWalk(7), 2 * many[k]);
            if (at[k] == 15) Due.is("49 the last one went, another one came", things(), "1{} 2{} 3{} 6{}");
            if (at[k] == 17) Due.is("49 the first ones stay", things(), "1{} 2{}");
        }
        c.step(600);
        Due.is("44 behind the END", c.ofWalk(8) + " " + things(), "1 7{}");
        // The same one up to four times.
        walk("make 1; setloc 0; loc 0; pin; loc 0; pin; loc 0; pin; loc 0; pin; loc 0; pin; null; setloc 0; unpin; unpin; unpin; unpin; num 1; ret", 14);
        Due.is("44 four PINS, one THING", c.ofWalk(8) + " " + c.ofWalk(6), "4 1");
        for (int k = 3; k >= 0; k--) {
            c.step(1);
            Due.is("44 one less", c.ofWalk(8) + " " + c.ofWalk(6), k + (k > 0 ? " 1" : " 0"));
        }
    }

    /** PINS in the way of what moves, at each STEP with collections; texts stay. */
    private static void pinsThatStay() {
        world(1, 1, 1);
        write("num 3; row 0; setloc 0; num 9; row 1; pin; loc 0; cast " + c.expr(2, 0, 0) + "; num 1; num 77; put 0; make 4; setloc 1; num 12; row 1; setloc 2; make 2; pin; num 5; box 0; setloc 1; loc 0; pin; gc; null; setloc 2; num 12; row 1; setloc 2; loc 1; unboxa 0; ret");
        c.walk(0, 0, 0, 0);
        while (c.ofWalk(0) == 1) {
            String before = things();
            Due.is("51 CELLS", c.collect(), c.ofWalk(7));
            Due.is("51 nothing changes", things(), before);
            Due.is("54 sound", c.isSound(), true);
            c.step(1);
        }
        Due.is("44 END", facts().substring(0, 4), "0 0 ");
        Due.is("44 RESULT, PINS", c.ofWalk(4) + " " + c.ofWalk(8), "5 3");
        Due.is("49 PINS behind the END", things(), "1[0,77,0] 2[null,null,null,null,null,null,null,null,null] 5{0}");
    }

    private static void collections() {
        world(1);
        String code = "num 12; row 0; pop; num 12; row 0; pop; gc; num 12; row 0; pop; cells; out; make 1; setloc 0; gc; cells; ret";
        for (int limit : new int[] {20, 200}) {
            c.limit(limit);
            write(code);
            Due.is("37 what is not REACHED takes no room", Due.run(c, 0, 0, 0, 0), "0 0 2 [0]");
        }
        walk(code, 2);
        Due.is("51 one", c.collect(), 15);
        Due.is("51 the same again", c.collect(), 15);
        c.step(1);
        Due.is("51 none", c.collect(), 0);
        Due.is("44 no STEP of the WALK", c.ofWalk(3), 3);
        c.step(600);
        Due.is("44 as without it", facts(), "0 0 0 " + c.ofWalk(3) + " 2 0 0 0 0");
        Due.is("39 STEPS as of a run", c.ofWalk(3), c.ofRun(2));
    }

    private static void shares() {
        c = new Cellruntime();
        c.sample(3);
        c.walk(2, 5, 0, 0);
        c.step(9);
        String before = facts() + stack(0) + things();
        Due.is("36 it was", c.share(false), true);
        Due.is("36 told", c.house(5), 0);
        Due.is("36 the WALK stays", facts() + stack(0) + things(), before);
        Due.is("36 again", c.share(false), false);
        c.run(2, 1, 5, 0, 0);
        int not = c.ofRun(4);
        Due.is("36 back", c.share(true), false);
        c.run(2, 1, 5, 0, 0);
        Due.is("39 BODIES: t0<int> and t0<object> are not one", not + " " + c.ofRun(4), "5 5");
        c.share(false);
        Due.is("39 those of the last run stay", c.ofRun(4), 5);
    }

    private static void houses() {
        c = new Cellruntime();
        c.sample(2);
        int loop = c.method(0, 5, 0, -1);
        Due.write(c, loop, "go 0");
        int fault = c.method(0, 6, 0, -1);
        Due.write(c, fault, "null; throw");
        int own = c.method(0, 7, 1, -1);
        Due.write(c, own, "ret");
        int[] want = {0, 0, 0, 0, 120, 1, 0, 4};
        int[][] runs = {{0, 1}, {loop, 3}, {fault, 2}, {0, 1}, {fault, 2}, {fault, 2}, {own, 0}};
        for (int way = 0; way <= 1; way++) for (int[] k : runs) {
            c.run(k[0], way, 1, 0, 0);
            if (k[1] > 0) {
                want[0]++;
                want[k[1]]++;
            }
            for (int n = 0; n <= 7; n++) Due.is("52 house(" + n + ")", c.house(n), want[n]);
        }
        c.walk(0, 1, 0, 0);
        c.step(600);
        c.areSame(0, 1, 0, 0);
        for (int n = 0; n <= 7; n++) Due.is("52 not by WALKS and areSame(): house(" + n + ")", c.house(n), want[n]);
        // RIGHT: also METHODS of INTERFACES and DELEGATES, not those of what is not WHOLE.
        int i = c.expr(0, c.type(2, false, -1, -1), 0);
        c.method(1, 0, 2, -1);
        Due.is("52 of an INTERFACE", c.house(7), 5);
        c.type(3, false, -1, -1);
        c.method(2, 0, 2, -1);
        Due.is("52 of a DELEGATE", c.house(7), 6);
        c.change(fault, 0, 9, 0, 0);
        Due.is("52 one that is not RIGHT", c.house(7), 5);
        c.implement(0, i);
        Due.is("52 those of what is not WHOLE", c.house(7), 2);
        Due.is("52 runs stay", c.house(0), 12);
        c.clear();
        Due.is("52 none", c.house(7) + " " + c.house(0), "0 12");
    }

    private static void knocks() {
        c = new Cellruntime();
        for (int k = 1; k <= 20; k++) Due.is("53 knock", c.knock(), k);
        Due.is("52 told", c.house(6), 20);
        Due.is("53 another object", new Cellruntime().knock(), 1);
        c.sample(0);
        Due.is("53 it stays", c.knock(), 21);
    }

    /** Each thing that is told changes it; it is the same again, as that is. */
    private static void digests() {
        c = new Cellruntime();
        long first = c.digest();
        Due.is("55 the same of another one", new Cellruntime().digest(), first);
        Due.is("55 it changes nothing", c.digest(), first);
        Due.Call[] acts = {
            () -> c.knock(), () -> c.limit(121), () -> c.share(false), () -> c.type(0, false, -1, 1), () -> c.expr(0, 0, 0), () -> c.type(2, false, -1, -1), () -> c.expr(0, 1, 0),
            () -> c.implement(0, 5), () -> c.field(0, 0, false), () -> c.method(0, 1, 0, 0), () -> c.param(0, 0), () -> c.local(0, 1), () -> c.code(0, 3, 0, 0), () -> c.code(0, 25, 0, 0),
            () -> c.handler(0, 0, 0, 1, 1, 2), () -> c.unhandle(0), () -> c.change(0, 0, 1, 33, 0), () -> c.run(0, 0, 0, 0, 0), () -> c.run(0, 1, 0, 0, 0), () -> c.walk(0, 1, 2, 3),
            () -> c.step(1), () -> c.step(1), () -> c.stop(), () -> c.cut(0, 1), () -> c.clear(),
        };
        for (int k = 0; k < acts.length; k++) {
            long before = c.digest();
            acts[k].get();
            Due.is("55 act " + k + " changes it", c.digest() != before, true);
            Due.is("55 as it is told", c.digest(), Due.digest(c));
        }
    }
}
