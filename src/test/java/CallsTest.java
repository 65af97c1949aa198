import java.lang.reflect.InvocationTargetException;
import java.lang.reflect.Method;
import java.lang.reflect.Modifier;
import java.util.ArrayList;
import java.util.Arrays;
import java.util.List;
import java.util.Map;
import java.util.Random;
import java.util.TreeMap;

/**
 * Rows of any calls of the face, each done by the class and by {@link Face}: what one call leaves for the later ones. The
 * first argument tells how many rows, the second one with which seed to begin.
 */
public final class CallsTest {
    private static final List<String> MAKING = List.of("type", "expr", "implement", "field", "method", "param", "local", "code", "change", "cut", "handler", "handles",
        "unhandle", "clear", "sample");
    private static final List<String> RUNNING = List.of("run", "areSame", "walk", "step", "step", "step", "step", "stop", "collect", "limit", "share", "knock", "isSound");
    private static final int[] STRANGE = {Integer.MIN_VALUE, -10000, -2, 12, 24, 40, 41, 48, 57, 58, 600, 601, Integer.MAX_VALUE};
    private static final Map<String, Method> OWN = new TreeMap<>();
    private static final Map<String, Method> OTHER = new TreeMap<>();
    private static final List<String> ASKING = new ArrayList<>();
    private static int answers;

    private final Random random;
    private final Both both = new Both();
    private final Face face = new Face(both.model);

    private CallsTest(Random random) {
        this.random = random;
    }

    public static void main(String[] args) throws IllegalAccessException {
        int rows = args.length > 0 ? Integer.parseInt(args[0]) : 80;
        int first = args.length > 1 ? Integer.parseInt(args[1]) : 1;
        for (Method m : Cellruntime.class.getDeclaredMethods()) if (Modifier.isPublic(m.getModifiers())) OWN.put(m.getName(), m);
        for (Method m : Face.class.getDeclaredMethods()) if (!Modifier.isPrivate(m.getModifiers()) && OWN.containsKey(m.getName())) OTHER.put(m.getName(), m);
        for (String name : OWN.keySet()) if (!MAKING.contains(name) && !RUNNING.contains(name)) ASKING.add(name);
        int wrong = OWN.size() == 54 && OTHER.size() == 54 ? 0 : 1;
        for (int seed = first; seed < first + rows && wrong < 3; seed++) {
            CallsTest test = new CallsTest(new Random(seed * 6700417L));
            test.row(seed);
            if (test.both.wrong > 0) System.out.println("seed " + seed + ": " + test.both.wrong + " answers are not the same");
            if (test.both.wrong > 0) wrong++;
        }
        System.out.println("CallsTest: " + rows + " rows, " + answers + " answers");
        if (wrong != 0) System.exit(1);
    }

    private void row(int seed) throws IllegalAccessException {
        if (seed % 2 == 0) {
            Programs programs = new Programs(random, both);
            programs.makeTypes();
            programs.writeAll();
        } else {
            call("sample", random.nextInt(8));
        }
        for (int n = 0; n < 12 && both.wrong == 0; n++) {
            int making = random.nextInt(4) == 0 ? 40 : random.nextInt(3);
            for (int k = 0; k < 35 && both.wrong == 0; k++) {
                int kind = random.nextInt(100);
                if (k == 10) begin();
                if (kind < making) any(MAKING);
                else any(kind < 45 ? RUNNING : ASKING);
            }
            if (random.nextInt(4) == 0) call("sample", random.nextInt(8));
            call("digest");
        }
        call("isSound");
    }

    /** Most of the time with a WALK on its way. */
    private void begin() throws IllegalAccessException {
        for (Model.Me m : both.model.methods) if (both.model.entry(m) && random.nextInt(3) > 0) call("walk", m.no, random.nextInt(9), random.nextInt(9), 1);
    }

    private void any(List<String> names) throws IllegalAccessException {
        String name = names.get(random.nextInt(names.size()));
        if ((name.equals("clear") || name.equals("sample")) && random.nextInt(10) > 0) name = "change";
        Object[] args = new Object[OWN.get(name).getParameterCount()];
        for (int k = 0; k < args.length; k++) args[k] = OWN.get(name).getParameterTypes()[k] == boolean.class ? (Object) random.nextBoolean() : number(name, k);
        call(name, args);
    }

    /** Most of the time one that can be meant there. */
    private int number(String name, int k) {
        Model model = both.model;
        int kind = random.nextInt(24);
        if (kind == 0) return STRANGE[random.nextInt(STRANGE.length)];
        if (kind == 1) return -1;
        if (name.equals("step")) return 1 + random.nextInt(random.nextInt(4) == 0 ? 60 : 9);
        if (name.equals("limit")) return 20 + random.nextInt(181);
        if (kind < 16 && k == 0) {
            if (List.of("exprText", "cellsOf", "isA", "keeps", "isGood", "answer").contains(name)) return random.nextInt(model.xs.size());
            if (List.of("type", "expr", "ofType", "ofFrame", "holder", "value", "reached", "thing", "sample", "implement", "field", "method").contains(name)) return random.nextInt(6);
            if (!model.methods.isEmpty()) return random.nextInt(model.methods.size());
        }
        if (kind < 16 && name.equals("change") && k == 2) return random.nextInt(58);
        return random.nextInt(kind < 20 ? 4 : 16);
    }

    private void call(String name, Object... args) throws IllegalAccessException {
        answers++;
        String call = name + Arrays.toString(args);
        Object want = told(OTHER.get(name), face, args);
        both.log.append("    ").append(call).append(" = ").append(want).append('\n');
        both.same(call, told(OWN.get(name), both.own, args), want);
    }

    private static Object told(Method m, Object of, Object[] args) throws IllegalAccessException {
        try {
            return m.invoke(of, args);
        } catch (InvocationTargetException e) {
            return e.getCause().getClass().getName();
        }
    }
}
