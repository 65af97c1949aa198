import java.util.Objects;

/** What the tests of the project have together: answers that are due, and code written by the names of operations. */
final class Due {
    interface Call {
        Object get();
    }

    static final Class<?> INDEX = IndexOutOfBoundsException.class;
    static final Class<?> ARGUMENT = IllegalArgumentException.class;
    static final Class<?> STATE = IllegalStateException.class;

    static final String[] NAMES = ("nop num null arg setarg loc setloc argp locp add sub mul div rem eq lt go if ifnot dup pop make call callv "
        + "callon ret get set getp gets sets getsp box unbox unboxa cast isa row len at put atp load store init bind invoke throw leave "
        + "endfinally endfilter out cells pin unpin gc codeof setcode").split(" ");

    private static int asked;
    private static int wrong;

    private Due() {
    }

    static void is(String call, Object got, Object want) {
        asked++;
        if (Objects.equals(got, want)) return;
        wrong++;
        System.out.println(call + " answered " + got + ", due is " + want);
    }

    /** What a call answers, or the class of the exception that it throws, is the one that is due. */
    static void fails(String call, Object want, Call of) {
        Object got;
        try {
            got = of.get();
        } catch (RuntimeException e) {
            got = e.getClass();
        }
        is(call, got, want);
    }

    static void end(String test) {
        System.out.println(test + ": " + asked + " answers, " + wrong + " not as due");
        if (wrong != 0) System.exit(1);
    }

    static int operation(String name) {
        for (int k = 0; k < NAMES.length; k++) if (NAMES[k].equals(name)) return k;
        throw new IllegalStateException(name);
    }

    /** Adds instructions to a METHOD, told as "arg 0; num 1; add; ret". */
    static void write(Cellruntime c, int m, String text) {
        for (String line : text.split(";")) {
            if (line.isBlank()) continue;
            String[] words = line.trim().split(" ");
            int a = words.length > 1 ? Integer.parseInt(words[1]) : 0;
            int b = words.length > 2 ? Integer.parseInt(words[2]) : 0;
            c.code(m, operation(words[0]), a, b);
        }
    }

    /** The STATES of all instructions of a METHOD, with "; " between. */
    static String states(Cellruntime c, int m) {
        StringBuilder all = new StringBuilder();
        for (int p = 0; p < c.ofMethod(m, 6); p++) all.append(p > 0 ? "; " : "").append(c.state(m, p));
        return all.toString();
    }

    /** END, CODE, RESULT and OUT of a run, which has to tell the same by both WAYS. */
    static String run(Cellruntime c, int m, int a, int b, int d) {
        String[] told = new String[2];
        for (int way = 0; way <= 1; way++) {
            int end = c.run(m, way, a, b, d);
            told[way] = end < 0 ? "" + end : end + " " + c.ofRun(1) + " " + c.ofRun(3) + " [" + c.out() + "]";
        }
        is("run(" + m + ", 1, " + a + ", " + b + ", " + d + ") beside WAY 0", told[1], told[0]);
        if (told[0].length() > 2) is("areSame(" + m + ")", c.areSame(m, a, b, d), true);
        return told[0];
    }

    /** The checksum as the document tells it, made of what the other calls answer. */
    static long digest(Cellruntime c) {
        long[] d = {7674};
        for (int k = 0; k <= 7; k++) add(d, c.house(k));
        add(d, c.types());
        for (int t = 0; t < c.types(); t++) for (int k = 0; k <= 7; k++) add(d, c.ofType(t, k));
        add(d, c.exprs());
        for (int x = 0; x < c.exprs(); x++) {
            add(d, c.exprText(x).length());
            add(d, c.cellsOf(x));
        }
        add(d, c.methods());
        for (int m = 0; m < c.methods(); m++) {
            for (int k = 0; k <= 7; k++) add(d, c.ofMethod(m, k));
            add(d, c.error(m));
            add(d, c.errorPlace(m));
            for (int p = 0; p < c.ofMethod(m, 6); p++) {
                add(d, c.codeText(m, p).length());
                add(d, c.state(m, p).length());
            }
        }
        add(d, c.isRight() ? 1 : 0);
        for (int k = 0; k <= 4; k++) add(d, c.ofRun(k));
        add(d, c.out().length());
        if (hasWalk(c)) addWalk(d, c);
        add(d, c.isSound() ? 1 : 0);
        return d[0];
    }

    private static void add(long[] d, long v) {
        d[0] = d[0] * 31 + v;
    }

    static boolean hasWalk(Cellruntime c) {
        try {
            c.ofWalk(0);
            return true;
        } catch (IllegalStateException e) {
            return false;
        }
    }

    private static void addWalk(long[] d, Cellruntime c) {
        for (int k = 0; k <= 8; k++) add(d, c.ofWalk(k));
        add(d, c.walkOut().length());
        for (int f = 0; f < c.ofWalk(5); f++) {
            for (int k = 0; k <= 2; k++) add(d, c.ofFrame(f, k));
            add(d, c.holder(f).length());
            int m = c.ofFrame(f, 0);
            int parameters = c.ofMethod(m, 4) + (c.ofMethod(m, 2) == 0 ? 0 : 1);
            for (int k = 0; k < parameters; k++) add(d, c.value(f, 0, k).length());
            for (int k = 0; k < c.ofMethod(m, 5); k++) add(d, c.value(f, 1, k).length());
            for (int k = 0; k < c.ofFrame(f, 2); k++) add(d, c.value(f, 2, k).length());
        }
        for (int k = 0; k < c.ofWalk(6); k++) {
            add(d, c.reached(k));
            add(d, c.thing(c.reached(k)).length());
        }
    }
}
