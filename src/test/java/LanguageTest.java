import java.io.ByteArrayInputStream;
import java.io.DataInputStream;
import java.io.IOException;
import java.io.InputStream;
import java.util.ArrayDeque;
import java.util.ArrayList;
import java.util.Deque;
import java.util.HashMap;
import java.util.HashSet;
import java.util.List;
import java.util.Map;
import java.util.Set;
import java.util.TreeMap;
import java.util.TreeSet;

/**
 * What of LANGUAGE.md can be seen in the compiled classes: the library that is used (rule 4), no handlers of exceptions and
 * no lambdas (2, 6), at most seven parameters and twelve classes inside (11), calls that are no recursion at most eight
 * deep (11), and just three methods that call themselves (8).
 */
public final class LanguageTest {
    private static final String[] CLASSES = {
        "", "$Pool", "$Types", "$Methods", "$Need", "$Checker", "$Frame", "$Frames", "$Memory", "$Reach", "$Words", "$Faults", "$Machine",
    };
    private static final Set<String> LIBRARY = Set.of(
        "java/lang/Object.<init>", "java/lang/IllegalArgumentException.<init>", "java/lang/IllegalStateException.<init>",
        "java/lang/IndexOutOfBoundsException.<init>", "java/lang/Math.max", "java/lang/Math.min", "java/lang/String.charAt", "java/lang/String.length",
        "java/lang/StringBuilder.<init>", "java/lang/StringBuilder.append(C)", "java/lang/StringBuilder.append(I)",
        "java/lang/StringBuilder.append(Ljava/lang/String;)", "java/lang/StringBuilder.charAt", "java/lang/StringBuilder.length",
        "java/lang/StringBuilder.setCharAt", "java/lang/StringBuilder.setLength", "java/lang/StringBuilder.toString", "java/lang/System.arraycopy",
        "java/util/Arrays.copyOf([II)", "java/util/Arrays.fill([II)", "java/util/Arrays.fill([IIII)");
    private static final Set<String> RECURSIVE = Set.of("Cellruntime$Reach.follow", "Cellruntime$Reach.fits", "Cellruntime$Reach.tellValue");

    private static final Map<String, Set<String>> CALLS = new TreeMap<>();
    private static final Map<String, List<String>> LONGEST = new HashMap<>();

    public static void main(String[] args) throws IOException {
        for (String name : CLASSES) read("Cellruntime" + name);
        Set<String> recursive = new TreeSet<>();
        for (String m : CALLS.keySet()) if (reaches(m, m)) recursive.add(m.substring(0, m.indexOf('(')));
        Due.is("8 what calls itself", recursive, new TreeSet<>(RECURSIVE));
        for (String m : CALLS.keySet()) {
            List<String> longest = longest(m, new HashSet<>());
            if (longest.size() > 8) Due.is("11 calls eight deep", longest, "at most 8");
        }
        Due.is("11 there are calls", CALLS.size() > 200, true);
        Due.end("LanguageTest");
    }

    private static boolean reaches(String from, String to) {
        Deque<String> queue = new ArrayDeque<>(CALLS.get(from));
        Set<String> seen = new HashSet<>();
        while (!queue.isEmpty()) {
            String m = queue.poll();
            if (m.equals(to)) return true;
            if (seen.add(m)) queue.addAll(CALLS.getOrDefault(m, Set.of()));
        }
        return false;
    }

    /** The longest way of calls from a method; one that calls itself counts once. */
    private static List<String> longest(String m, Set<String> open) {
        if (LONGEST.containsKey(m)) return LONGEST.get(m);
        List<String> best = new ArrayList<>();
        open.add(m);
        for (String n : CALLS.getOrDefault(m, Set.of())) {
            if (open.contains(n)) continue;
            List<String> one = longest(n, open);
            if (one.size() > best.size()) best = one;
        }
        open.remove(m);
        List<String> all = new ArrayList<>(best);
        all.add(0, m);
        LONGEST.put(m, all);
        return all;
    }

    // ---- class files

    private static void read(String name) throws IOException {
        try (InputStream in = LanguageTest.class.getResourceAsStream(name + ".class")) {
            Due.is("11 class " + name, in != null, true);
            if (in != null) new ClassFile(name, new DataInputStream(in)).read();
        }
    }

    private static final class ClassFile {
        final String name;
        final DataInputStream in;
        Object[] pool;
        int[][] pairs;

        ClassFile(String name, DataInputStream in) {
            this.name = name;
            this.in = in;
        }

        void read() throws IOException {
            in.readInt();
            in.readInt();
            readPool();
            in.readUnsignedShort();
            in.readUnsignedShort();
            in.readUnsignedShort();
            for (int n = in.readUnsignedShort(); n > 0; n--) in.readUnsignedShort();
            for (int n = in.readUnsignedShort(); n > 0; n--) readMember(false);
            for (int n = in.readUnsignedShort(); n > 0; n--) readMember(true);
            for (int n = in.readUnsignedShort(); n > 0; n--) {
                String attribute = (String) pool[in.readUnsignedShort()];
                byte[] bytes = in.readNBytes(in.readInt());
                if (name.equals("Cellruntime") && attribute.equals("NestMembers")) {
                    Due.is("11 classes inside", ((bytes[0] & 255) << 8 | bytes[1] & 255) + 1, CLASSES.length);
                }
            }
        }

        private void readPool() throws IOException {
            int n = in.readUnsignedShort();
            pool = new Object[n];
            pairs = new int[n][];
            for (int k = 1; k < n; k++) {
                int tag = in.readUnsignedByte();
                switch (tag) {
                    case 1: pool[k] = in.readUTF(); break;
                    case 3: case 4: in.readInt(); break;
                    case 5: case 6: in.readLong(); k++; break;
                    case 7: case 8: case 16: case 19: case 20: pairs[k] = new int[] {in.readUnsignedShort(), 0}; break;
                    case 15: in.readUnsignedByte(); in.readUnsignedShort(); break;
                    default: pairs[k] = new int[] {in.readUnsignedShort(), in.readUnsignedShort()}; break;
                }
            }
        }

        private String text(int k) {
            return (String) pool[k];
        }

        private void readMember(boolean isMethod) throws IOException {
            in.readUnsignedShort();
            String member = text(in.readUnsignedShort());
            String type = text(in.readUnsignedShort());
            String own = name + "." + member + type;
            if (isMethod) {
                CALLS.computeIfAbsent(own, k -> new TreeSet<>());
                Due.is("11 seven parameters of " + own, parameters(type) <= 7, true);
            }
            for (int n = in.readUnsignedShort(); n > 0; n--) {
                String attribute = text(in.readUnsignedShort());
                byte[] bytes = in.readNBytes(in.readInt());
                if (attribute.equals("Code")) readCode(own, bytes);
            }
        }

        private static int parameters(String type) {
            int count = 0;
            for (int k = 1; type.charAt(k) != ')'; k++) {
                while (type.charAt(k) == '[') k++;
                if (type.charAt(k) == 'L') k = type.indexOf(';', k);
                count++;
            }
            return count;
        }

        private void readCode(String own, byte[] bytes) throws IOException {
            DataInputStream code = new DataInputStream(new ByteArrayInputStream(bytes));
            code.readInt();
            byte[] lines = code.readNBytes(code.readInt());
            Due.is("6 no try in " + own, code.readUnsignedShort(), 0);
            for (int p = 0; p < lines.length; p += length(lines, p)) {
                int op = lines[p] & 255;
                if (op == 186) Due.is("2 no lambda in " + own, op, 0);
                if (op == 193 || op == 194) Due.is("6 in " + own, op, 0);
                if (op < 182 || op > 185) continue;
                int[] method = pairs[(lines[p + 1] & 255) << 8 | lines[p + 2] & 255];
                String owner = text(pairs[method[0]][0]);
                String called = text(pairs[method[1]][0]);
                String type = text(pairs[method[1]][1]);
                if (owner.startsWith("Cellruntime")) {
                    CALLS.get(own).add(owner + "." + called + type);
                } else if (!owner.startsWith("[")) {
                    String full = owner + "." + called;
                    boolean isLet = LIBRARY.contains(full) || LIBRARY.contains(full + type.substring(0, type.indexOf(')') + 1));
                    Due.is("4 " + full + type + " in " + own, isLet, true);
                }
            }
        }

        private static int number(byte[] lines, int p) {
            return (lines[p] & 255) << 24 | (lines[p + 1] & 255) << 16 | (lines[p + 2] & 255) << 8 | lines[p + 3] & 255;
        }

        /** How many bytes an instruction of the Java machine has. */
        private static int length(byte[] lines, int p) {
            int op = lines[p] & 255;
            int next = (p / 4 + 1) * 4;
            if (op == 170) return next + 12 + 4 * (number(lines, next + 8) - number(lines, next + 4) + 1) - p;
            if (op == 171) return next + 8 + 8 * number(lines, next + 4) - p;
            if (op == 196) return (lines[p + 1] & 255) == 132 ? 6 : 4;
            if (op == 185 || op == 186 || op == 200 || op == 201) return 5;
            if (op == 197) return 4;
            if (op == 17 || op == 19 || op == 20 || op == 132 || op >= 153 && op <= 168 || op >= 178 && op <= 184 || op == 187 || op == 189) return 3;
            if (op == 192 || op == 193 || op == 198 || op == 199) return 3;
            if (op == 16 || op == 18 || op >= 21 && op <= 25 || op >= 54 && op <= 58 || op == 169 || op == 188) return 2;
            return 1;
        }
    }
}
