import java.util.Map;
import java.util.Random;

/**
 * Random programs, done by the class and by the model: what is made, what is right, what runs and walks tell. An
 * argument tells how many; a second one with which seed to begin; with a third one it is told what came up.
 */
public final class FuzzTest {
    private static int runs;
    private static int ends;
    private static int uncaught;
    private static int cut;
    private static int rights;

    public static void main(String[] args) {
        int many = args.length > 0 ? Integer.parseInt(args[0]) : 300;
        int first = args.length > 1 ? Integer.parseInt(args[1]) : 1;
        int wrong = 0;
        for (int seed = first; seed < first + many && wrong < 3; seed++) {
            int w = one(seed) + acts(seed);
            if (w > 0) System.out.println("seed " + seed + ": " + w + " answers are not the same");
            if (w > 0) wrong++;
        }
        tell("FuzzTest", many);
        if (args.length > 2) for (Map.Entry<String, Integer> e : Model.SEEN.entrySet()) System.out.println(e.getValue() + " " + e.getKey());
        if (wrong != 0) System.exit(1);
    }

    static void tell(String test, int many) {
        System.out.println(test + ": " + many + " programs, " + rights + " right, " + runs + " runs: " + ends + " done, " + uncaught + " uncaught, " + cut + " cut");
    }

    private static int one(int seed) {
        Random random = new Random(seed * 7919L);
        Both both = new Both();
        Programs programs = new Programs(random, both);
        programs.makeTypes();
        programs.writeAll();
        both.compareTypes();
        if (seed % 5 == 0) both.compareAnswers();
        both.compareMethods();
        for (int round = 0; round < 6 && both.wrong == 0; round++) {
            if (round > 0) mutate(random, both);
            both.compareMethods();
            runAll(random, both, round);
        }
        return both.wrong;
    }

    /** Acts with any numbers, most of them small. */
    private static int acts(int seed) {
        Random random = new Random(seed * 104729L);
        Both both = new Both();
        for (int n = 0; n < 260 && both.wrong == 0; n++) act(random, both);
        both.compareTypes();
        both.compareMethods();
        if (seed % 9 == 0) both.compareAnswers();
        for (Model.Me m : both.model.methods) both.compareRun(m, random.nextInt(2), 1, 2, 3);
        both.same("isSound()", both.own.isSound(), true);
        both.same("digest()", both.own.digest(), Due.digest(both.own));
        return both.wrong;
    }

    private static int any(Random random, int many) {
        return random.nextInt(20) == 0 ? random.nextInt(60) - 5 : random.nextInt(many + 1);
    }

    private static void act(Random random, Both both) {
        Model model = both.model;
        int t = any(random, model.types.size());
        int x = any(random, model.xs.size());
        int m = any(random, model.methods.size());
        switch (random.nextInt(22)) {
            case 0: case 1: both.type(any(random, 3), random.nextInt(3) == 0, random.nextInt(3) == 0 ? x : -1, random.nextInt(3) == 0 ? any(random, 8) : 1); break;
            case 2: both.type(1 + random.nextInt(3), random.nextInt(3) == 0, random.nextInt(3) == 0 ? x : -1, -1); break;
            case 3: both.expr(any(random, 1), t, x); break;
            case 4: both.expr(1, t, x); break;
            case 5: both.expr(any(random, 3), x, x); break;
            case 6: case 7: both.implement(t, x); break;
            case 8: case 9: both.field(t, x, random.nextInt(3) == 0); break;
            case 10: case 11: both.method(t, any(random, 9), any(random, 2), random.nextBoolean() ? -1 : x); break;
            case 12: both.param(m, x); break;
            case 13: both.local(m, x); break;
            case 14: case 15: case 16: both.code(m, any(random, 57), x, x); break;
            case 17: both.change(m, any(random, 3), any(random, 57), x, t); break;
            case 18: both.cut(m, any(random, 2)); break;
            case 19: both.handler(m, any(random, 3), any(random, 2), any(random, 4), any(random, 5), any(random, 7)); break;
            case 20: both.handles(m, any(random, 2), random.nextInt(45) - 2); break;
            default:
                if (random.nextInt(60) == 0) both.clear();
                else if (random.nextInt(3) == 0) both.unhandle(m);
                break;
        }
    }

    private static void mutate(Random random, Both both) {
        Model model = both.model;
        for (int n = 1 + random.nextInt(3); n > 0; n--) {
            Model.Me m = model.methods.get(random.nextInt(model.methods.size()));
            int places = m.code.size();
            if (places == 0) continue;
            int p = random.nextInt(places);
            int[] line = m.code.get(p).clone();
            int[] before = line.clone();
            int kind = model.check(m).kind;
            switch (random.nextInt(6)) {
                case 0: line[0] = random.nextInt(58); break;
                case 1: line[1] = random.nextInt(40) - 1; break;
                case 2: line[2] = random.nextInt(Math.max(1, model.xs.size() + 2)) - 1; break;
                case 3: line[1] += random.nextInt(3) - 1; break;
                case 4: {
                    int h = both.handler(m.no, random.nextInt(4), random.nextInt(places + 1), random.nextInt(places + 1), random.nextInt(places + 1), random.nextInt(places + 1));
                    if (h >= 0 && random.nextBoolean()) both.handles(m.no, h, random.nextInt(12));
                    both.compareMethods();
                    if (h >= 0 && model.check(m).kind != 0) both.unhandle(m.no);
                    continue;
                }
                default: {
                    if (m.handlers.isEmpty()) continue;
                    int h = random.nextInt(m.handlers.size());
                    int old = m.handlers.get(h)[5];
                    both.handles(m.no, h, random.nextInt(20) - 1);
                    both.compareMethods();
                    if (model.check(m).kind != 0) both.handles(m.no, h, old);
                    continue;
                }
            }
            both.change(m.no, p, line[0], line[1], line[2]);
            both.compareMethods();
            if (kind == 0 && model.check(m).kind != 0 && random.nextInt(8) > 0) both.change(m.no, p, before[0], before[1], before[2]);
        }
    }

    static void runAll(Random random, Both both, int round) {
        Model model = both.model;
        boolean isRight = model.allRight();
        if (round == 0 && isRight) rights++;
        if (random.nextInt(4) == 0) {
            int cells = 20 + random.nextInt(random.nextBoolean() ? 181 : 21);
            both.own.limit(cells);
            model.limit = cells;
        }
        boolean are = random.nextBoolean();
        both.own.share(are);
        model.shared = are;
        for (Model.Me m : model.methods) {
            int a = random.nextInt(9) - 2;
            int b = random.nextInt(5);
            int c = random.nextInt(3);
            both.compareRun(m, 0, a, b, c);
            both.compareRun(m, 1, a, b, c);
            if (!isRight || !model.entry(m)) continue;
            runs++;
            int end = both.own.ofRun(0);
            if (end == 0) ends++;
            if (end == 1) uncaught++;
            if (end == 2) cut++;
            both.same("areSame(" + m.no + ")", both.own.areSame(m.no, a, b, c), true);
            walkThrough(random, both, m, a, b, c);
        }
        both.same("isSound()", both.own.isSound(), true);
        both.same("digest() twice", both.own.digest(), both.own.digest());
    }

    private static void walkThrough(Random random, Both both, Model.Me m, int a, int b, int c) {
        Model.Run run = both.walk(m, a, b, c);
        int most = 90;
        for (int n = 0; n < most && both.wrong == 0; n++) {
            both.compareWalk(run);
            if (run.end != -1) break;
            if (random.nextInt(6) == 0) both.same("collect()", both.own.collect(), run.reachedCells());
            if (random.nextInt(10) == 0) both.same("isSound()", both.own.isSound(), true);
            if (random.nextInt(25) == 0) both.own.run(m.no, random.nextInt(2), b, a, c);
            both.step(run, n < 40 || random.nextBoolean() ? 1 : 1 + random.nextInt(40));
        }
        both.step(run, 600);
        both.compareWalk(run);
        both.same("isSound()", both.own.isSound(), true);
    }
}
