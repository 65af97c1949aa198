import java.lang.reflect.InvocationTargetException;
import java.lang.reflect.Method;
import java.util.ArrayList;
import java.util.Arrays;
import java.util.Comparator;
import java.util.List;
import java.util.Random;

/**
 * Any calls with any numbers, 512 for each object: a call answers, or throws just one of those exceptions that stand behind its
 * name in the document; and all the time the memory is sound, and the checksum is made of what the other calls answer.
 */
public final class AnyCallTest {
    private static final int CALLS = 512;
    private static final int[] STRANGE = {Integer.MIN_VALUE, Integer.MIN_VALUE + 1, -10000, -2, -1, 12, 24, 40, 41, 48, 57, 58, 600, 601, 10000, Integer.MAX_VALUE};

    public static void main(String[] args) throws IllegalAccessException {
        int objects = args.length > 0 ? Integer.parseInt(args[0]) : 150;
        int first = args.length > 1 ? Integer.parseInt(args[1]) : 1;
        List<Method> face = new ArrayList<>(Arrays.asList(Cellruntime.class.getDeclaredMethods()));
        face.removeIf(m -> !java.lang.reflect.Modifier.isPublic(m.getModifiers()));
        face.sort(Comparator.comparing(Method::getName));
        Due.is("the face", face.size(), 54);
        for (int seed = first; seed < first + objects; seed++) one(new Random(seed * 31L), face, seed);
        Due.end("AnyCallTest");
    }

    private static void one(Random random, List<Method> face, int seed) throws IllegalAccessException {
        Cellruntime c = new Cellruntime();
        for (int k = 0; k < CALLS; k++) {
            if (k % 64 == 0 && random.nextInt(3) > 0) c.sample(random.nextInt(8));
            Method m = face.get(random.nextInt(face.size()));
            boolean isMaking = m.getName().equals("clear") || m.getName().equals("sample");
            if (isMaking && random.nextInt(20) > 0) m = face.get(random.nextInt(face.size()));
            call(c, m, random, seed);
            if (k % 16 == 0) begin(c, random);
        }
        Due.is("54 sound at the end of " + seed, c.isSound(), true);
        Due.is("55 digest at the end of " + seed, c.digest(), Due.digest(c));
    }

    /** Most of the time with a WALK on its way. */
    private static void begin(Cellruntime c, Random random) {
        if (c.methods() == 0 || !c.isRight()) return;
        int m = random.nextInt(c.methods());
        if (c.walk(m, random.nextInt(9), random.nextInt(9), 1) == 0) c.step(1 + random.nextInt(60));
    }

    private static void call(Cellruntime c, Method m, Random random, int seed) throws IllegalAccessException {
        Object[] args = new Object[m.getParameterCount()];
        for (int k = 0; k < args.length; k++) args[k] = m.getParameterTypes()[k] == boolean.class ? (Object) random.nextBoolean() : number(random);
        String told = m.getName() + Arrays.toString(args) + " of " + seed;
        try {
            Object answer = m.invoke(c, args);
            Due.is(told + " answers", answer != null, true);
            if (m.getReturnType() == int.class && m.getName().equals("step")) Due.is(told, (Integer) answer >= 0, true);
        } catch (InvocationTargetException e) {
            boolean isDue = Arrays.asList(m.getExceptionTypes()).contains(e.getCause().getClass());
            Due.is(told + " throws " + e.getCause(), isDue, true);
        }
    }

    private static int number(Random random) {
        int kind = random.nextInt(20);
        if (kind == 0) return STRANGE[random.nextInt(STRANGE.length)];
        if (kind < 4) return random.nextInt(60);
        return random.nextInt(kind < 10 ? 3 : 9) - (kind == 19 ? 1 : 0);
    }
}
