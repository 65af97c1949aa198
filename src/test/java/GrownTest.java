import java.util.Map;
import java.util.Random;

/**
 * Code that is grown instruction by instruction, done by the class and by the model. Arguments as of {@link FuzzTest}:
 * how many, with which seed to begin, and with a third one it is told what came up.
 */
public final class GrownTest {
    public static void main(String[] args) {
        int many = args.length > 0 ? Integer.parseInt(args[0]) : 20;
        int first = args.length > 1 ? Integer.parseInt(args[1]) : 1;
        int wrong = 0;
        for (int seed = first; seed < first + many && wrong < 3; seed++) {
            int w = one(seed);
            if (w > 0) System.out.println("seed " + seed + ": " + w + " answers are not the same");
            if (w > 0) wrong++;
        }
        FuzzTest.tell("GrownTest", many);
        if (args.length > 2) for (Map.Entry<String, Integer> e : Model.SEEN.entrySet()) System.out.println(e.getValue() + " " + e.getKey());
        if (wrong != 0) System.exit(1);
    }

    private static int one(int seed) {
        Random random = new Random(seed * 15485863L);
        Both both = new Both();
        new Programs(random, both).makeTypes();
        Grown grown = new Grown(random, both);
        grown.grow(30);
        both.compareMethods();
        for (int round = 0; round < 2 && both.wrong == 0; round++) FuzzTest.runAll(random, both, round);
        return both.wrong;
    }
}
