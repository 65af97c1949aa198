import java.util.ArrayList;
import java.util.Arrays;
import java.util.HashSet;
import java.util.LinkedHashSet;
import java.util.List;
import java.util.Set;
import java.util.TreeMap;
import java.util.function.IntConsumer;

/**
 * The document once more, written apart from the class and in another way: expressions are trees, values are objects,
 * places are cells of Java's own, and what goes on behind a BLOCK or a TEST is a piece of code that is kept. It is
 * slow and plain; random programs are done by both, and both have to tell the same.
 */
final class Model {
    static final int NONE = -1;

    record X(int what, int type, X of) {
        static final X INT = new X(0, NONE, null), OBJECT = new X(1, NONE, null), FAULT = new X(2, NONE, null), T = new X(3, NONE, null);

        boolean hasT() {
            return what == 3 || of != null && of.hasT();
        }

        int deep() {
            return of == null ? 0 : 1 + of.deep();
        }

        boolean isRow() {
            return what == 6;
        }

        boolean isPlace() {
            return what == 7;
        }

        X argument() {
            return what == 5 ? of : null;
        }

        X with(X by) {
            if (by == null) return this;
            if (what == 3) return by;
            return of == null ? this : new X(what, type, of.with(by));
        }

        X row() {
            return new X(6, NONE, this);
        }

        X place() {
            return new X(7, NONE, this);
        }

        @Override
        public String toString() {
            return switch (what) {
                case 0 -> "int";
                case 1 -> "object";
                case 2 -> "fault";
                case 3 -> "T";
                case 4 -> "t" + type;
                case 5 -> "t" + type + "<" + of + ">";
                case 6 -> of + "[]";
                default -> of + "&";
            };
        }
    }

    static final class Ty {
        int kind;
        boolean open;
        int boundNo;
        int baseNo;
        X bound;
        X base;
        List<X> contracts = new ArrayList<>();
    }

    /** A FIELD; by its number two that are alike in all else are told apart. */
    record Fd(int type, X x, boolean isStatic, int number) {
    }

    static final class Me {
        int no;
        int type;
        int name;
        int mode;
        int resultNo;
        X result;
        List<X> given = new ArrayList<>();
        List<X> locals = new ArrayList<>();
        List<int[]> code = new ArrayList<>();
        List<int[]> handlers = new ArrayList<>();
    }

    /** How often something came up in what was checked and run, so that one sees what the random programs reach. */
    static final TreeMap<String, Integer> SEEN = new TreeMap<>();

    static void seen(String what) {
        SEEN.merge(what, 1, Integer::sum);
    }

    final List<X> xs = new ArrayList<>();
    final List<Ty> types = new ArrayList<>();
    final List<Fd> fields = new ArrayList<>();
    final List<Me> methods = new ArrayList<>();
    int limit = 120;
    boolean shared = true;

    Model() {
        xs.addAll(List.of(X.INT, X.OBJECT, X.FAULT, X.T));
    }

    // ---------------------------------------------------------------- acts (all numbers are let; exceptions are thrown)

    private static void bad() {
        throw new IllegalArgumentException();
    }

    private static void beyond() {
        throw new IndexOutOfBoundsException();
    }

    X x(int no) {
        return no >= 0 && no < xs.size() ? xs.get(no) : null;
    }

    int kind(X x) {
        return x != null && (x.what == 4 || x.what == 5) ? types.get(x.type).kind : NONE;
    }

    int type(int kind, boolean open, int bound, int base) {
        if (kind < 0 || kind > 3) bad();
        if (types.size() >= 12) return -2;
        if (kind == 1 && open) return -3;
        X b = x(bound);
        if (bound != NONE && (!open || kind(b) != 2 || b.hasT() || !good(b, false, null))) return -4;
        X c = x(base);
        if (kind == 0) {
            if (c == null) return -5;
            if (!c.equals(X.OBJECT) && !c.equals(X.FAULT) && kind(c) != 0) return -5;
            if (!good(c, open, b)) return -5;
        } else if (base != NONE) {
            return -5;
        }
        Ty t = new Ty();
        t.kind = kind;
        t.open = open;
        t.boundNo = bound;
        t.baseNo = base;
        t.bound = b;
        t.base = c;
        types.add(t);
        return types.size() - 1;
    }

    int expr(int what, int of, int argument) {
        if (what < 0 || what > 3) bad();
        X inner = null;
        if (what <= 1) {
            if (of < 0 || of >= types.size()) return -2;
            if (what == 1 && x(argument) == null) return -2;
            if (types.get(of).open != (what == 1)) return -3;
            if (what == 1) inner = x(argument);
        } else {
            inner = x(of);
            if (inner == null) return -2;
        }
        if (inner != null && inner.isPlace()) return -4;
        X made = new X(4 + what, what <= 1 ? of : NONE, inner);
        if (made.deep() > 3) return -5;
        if (xs.contains(made)) return xs.indexOf(made);
        if (xs.size() >= 48) return -6;
        xs.add(made);
        return xs.size() - 1;
    }

    private Ty ty(int type) {
        if (type < 0 || type >= types.size()) beyond();
        return types.get(type);
    }

    private Me me(int m) {
        if (m < 0 || m >= methods.size()) beyond();
        return methods.get(m);
    }

    int implement(int type, int no) {
        Ty t = ty(type);
        if (t.contracts.size() == 2) return -2;
        X i = x(no);
        if (t.kind > 1 || kind(i) != 2) return -3;
        if (!good(i, t.open, t.bound)) return -4;
        if (t.contracts.contains(i)) return -5;
        t.contracts.add(i);
        return t.contracts.size();
    }

    int field(int type, int no, boolean isStatic) {
        Ty t = ty(type);
        if (fields.size() == 24) return -2;
        X x = x(no);
        if (t.kind > 1 || x == null || x.isPlace()) return -3;
        if (!good(x, t.open, t.bound)) return -4;
        if (fields.stream().filter(f -> f.type == type).count() == 4) return -5;
        if (!isStatic && t.kind == 1) {
            if (kind(x) == 1 && x.type >= type) return -6;
            int cells = cells(x);
            for (Fd f : fields) if (f.type == type && !f.isStatic) cells += cells(f.x);
            if (cells > 8) return -6;
        }
        fields.add(new Fd(type, x, isStatic, fields.size()));
        return fields.size() - 1;
    }

    int method(int type, int name, int mode, int result) {
        Ty t = ty(type);
        if (name < 0 || name > 9 || mode < 0 || mode > 2) bad();
        if (methods.size() == 24) return -2;
        if (t.kind >= 2 && mode != 2) return -3;
        if (t.kind == 3 && methods.stream().anyMatch(m -> m.type == type)) return -3;
        if (result != NONE && (x(result) == null || !good(x(result), t.open, t.bound))) return -4;
        Me m = new Me();
        m.no = methods.size();
        m.type = type;
        m.name = name;
        m.mode = mode;
        m.resultNo = result;
        m.result = x(result);
        methods.add(m);
        return m.no;
    }

    int param(int method, int no) {
        Me m = me(method);
        Ty t = types.get(m.type);
        if (m.given.size() == 3) return -2;
        if (x(no) == null || !good(x(no), t.open, t.bound)) return -4;
        m.given.add(x(no));
        return m.given.size();
    }

    int local(int method, int no) {
        Me m = me(method);
        Ty t = types.get(m.type);
        if (m.locals.size() == 4) return -2;
        if (t.kind > 1) return -3;
        if (x(no) == null || !good(x(no), t.open, t.bound) || x(no).isPlace()) return -4;
        m.locals.add(x(no));
        return m.locals.size();
    }

    int code(int method, int operation, int a, int b) {
        Me m = me(method);
        if (operation < 0 || operation > 57) bad();
        if (m.code.size() == 40) return -2;
        if (types.get(m.type).kind > 1) return -3;
        m.code.add(new int[] {operation, a, b});
        return m.code.size();
    }

    int change(int method, int place, int operation, int a, int b) {
        Me m = me(method);
        if (place < 0 || place >= m.code.size()) beyond();
        if (operation < 0 || operation > 57) bad();
        return m.code.set(place, new int[] {operation, a, b})[0];
    }

    int cut(int method, int many) {
        Me m = me(method);
        if (many < 0 || many > m.code.size()) bad();
        for (int k = 0; k < many; k++) m.code.remove(m.code.size() - 1);
        return m.code.size();
    }

    int handler(int method, int kind, int from, int to, int at, int end) {
        Me m = me(method);
        if (kind < 0 || kind > 3) bad();
        for (int p : new int[] {from, to, at, end}) if (p < 0 || p > 40) bad();
        if (m.handlers.size() == 4) return -2;
        if (types.get(m.type).kind > 1) return -3;
        m.handlers.add(new int[] {kind, from, to, at, end, kind == 0 ? 2 : kind == 1 ? at : NONE});
        return m.handlers.size() - 1;
    }

    int handles(int method, int handler, int with) {
        Me m = me(method);
        if (handler < 0 || handler >= m.handlers.size()) beyond();
        int[] h = m.handlers.get(handler);
        if (h[0] == 1 && (with < 0 || with > 40)) bad();
        if (h[0] > 1) return -3;
        int before = h[5];
        h[5] = with;
        return before;
    }

    int unhandle(int method) {
        Me m = me(method);
        if (m.handlers.isEmpty()) return -2;
        m.handlers.remove(m.handlers.size() - 1);
        return m.handlers.size();
    }

    int clear() {
        int before = types.size();
        types.clear();
        fields.clear();
        methods.clear();
        while (xs.size() > 4) xs.remove(4);
        return before;
    }

    // ---------------------------------------------------------------- expressions

    boolean isReference(X x) {
        return x.what == 1 || x.what == 2 || x.what == 6 || (kind(x) >= 0 && kind(x) != 1);
    }

    boolean isValue(X x) {
        return x.what == 0 || kind(x) == 1;
    }

    X self(int t) {
        return types.get(t).open ? new X(5, t, X.T) : new X(4, t, null);
    }

    List<X> bases(X x) {
        List<X> all = new ArrayList<>();
        if (!isReference(x) && kind(x) != 1) return all;
        all.add(x);
        if (x.what == 1 || kind(x) == 1) return all;
        if (kind(x) == 0) all.addAll(bases(types.get(x.type).base.with(x.argument())));
        else all.add(X.OBJECT);
        return all;
    }

    boolean keeps(X x, X i, X bound) {
        if (kind(i) != 2) return false;
        if (x.equals(i) || x.equals(X.T) && i.equals(bound)) return true;
        for (X b : bases(x)) {
            if (kind(b) != 0 && kind(b) != 1) continue;
            for (X c : types.get(b.type).contracts) if (c.with(b.argument()).equals(i)) return true;
        }
        return false;
    }

    boolean isA(X x, X y) {
        if (!isReference(x) || !isReference(y)) return false;
        if (y.equals(X.OBJECT) || bases(x).contains(y) || keeps(x, y, null)) return true;
        return x.isRow() && y.isRow() && isA(x.of, y.of);
    }

    boolean good(X x, boolean open, X bound) {
        if (x.hasT() && !open) return false;
        for (X k = x; k != null; k = k.of) {
            if (k.what != 5) continue;
            X need = types.get(k.type).bound;
            if (need != null && !keeps(k.of, need, bound)) return false;
        }
        return true;
    }

    boolean goodIn(X x, int type) {
        return x != null && good(x, types.get(type).open, types.get(type).bound);
    }

    int cells(X x) {
        if (x.isPlace()) return 2;
        if (kind(x) != 1) return 1;
        int sum = 0;
        for (Fd f : fields) if (f.type == x.type && !f.isStatic) sum += cells(f.x);
        return Math.max(sum, 1);
    }

    List<X> signature(Me m, X x) {
        List<X> all = new ArrayList<>();
        for (X g : m.given) all.add(g.with(x.argument()));
        all.add(m.result == null ? null : m.result.with(x.argument()));
        return all;
    }

    /** The METHOD and the one of the BASES that has it, or null. */
    Object[] answer(X c, Me m, X x) {
        for (X b : bases(c)) {
            for (Me k : methods) {
                if (k.type != b.type || b.what < 4 || b.what > 5 || k.mode != 2 || k.name != m.name) continue;
                if (signature(k, b).equals(signature(m, x))) return new Object[] {k, b};
            }
        }
        return null;
    }

    boolean whole(int t) {
        Ty type = types.get(t);
        if (type.kind == 2) return true;
        if (type.kind == 3) return methods.stream().anyMatch(m -> m.type == t);
        for (X b : bases(self(t))) {
            if (b.what < 4 || b.what > 5) continue;
            for (X c : types.get(b.type).contracts) {
                X i = c.with(b.argument());
                for (Me m : methods) if (m.type == i.type && answer(self(t), m, i) == null) return false;
            }
        }
        return true;
    }

    // ---------------------------------------------------------------- what is right

    /** An entry of a STATE: x null is NULL. */
    record Entry(X x, boolean near) {
        static final Entry NULL = new Entry(null, false);

        @Override
        public String toString() {
            return x == null ? "null" : x + (near ? "!" : "");
        }
    }

    static final class Check {
        int kind;
        int place = NONE;
        List<List<Entry>> states = new ArrayList<>();

        /** How many entries the STATE has; NONE without one. */
        int depth(int p) {
            return states.isEmpty() || states.get(p) == null ? NONE : states.get(p).size();
        }

        String state(int p) {
            if (depth(p) == NONE) return "-";
            StringBuilder all = new StringBuilder();
            for (Entry e : states.get(p)) all.append(all.length() > 0 ? " " : "").append(e);
            return all.toString();
        }
    }

    static final class Wrong extends RuntimeException {
        final int kind;
        final int place;

        Wrong(int kind, int place) {
            super(null, null, false, false);
            this.kind = kind;
            this.place = place;
        }
    }

    private static Set<Integer> range(int from, int to) {
        Set<Integer> all = new LinkedHashSet<>();
        for (int k = from; k < to; k++) all.add(k);
        return all;
    }

    /** PARTS of a HANDLER: TRY, BLOCK and, of a FILTER, TEST. */
    private static List<Set<Integer>> parts(int[] h) {
        List<Set<Integer>> all = new ArrayList<>();
        all.add(range(h[1], h[2]));
        all.add(range(h[3], h[4]));
        if (h[0] == 1) all.add(range(h[5], h[3]));
        return all;
    }

    private static boolean meet(Set<Integer> a, Set<Integer> b) {
        for (int k : a) if (b.contains(k)) return true;
        return false;
    }

    private static boolean anyMeet(List<Set<Integer>> a, List<Set<Integer>> b) {
        for (Set<Integer> p : a) for (Set<Integer> q : b) if (meet(p, q)) return true;
        return false;
    }

    private static boolean allIn(List<Set<Integer>> a, Set<Integer> in) {
        for (Set<Integer> p : a) if (!in.containsAll(p)) return false;
        return true;
    }

    private boolean stands(int[] g, int[] h) {
        List<Set<Integer>> p = parts(g);
        List<Set<Integer>> q = parts(h);
        if (!anyMeet(p, q)) return true;
        if (g[0] <= 1 && h[0] <= 1 && p.get(0).equals(q.get(0)) && !anyMeet(p.subList(1, p.size()), q) && !anyMeet(p, q.subList(1, q.size()))) return true;
        if (allIn(p, q.get(0))) return true;
        for (int k = 1; k < q.size(); k++) if (allIn(p, q.get(k))) return true;
        for (int k = 1; k < p.size(); k++) if (allIn(q, p.get(k))) return true;
        return false;
    }

    private void handlersRight(Me m) {
        for (int n = 0; n < m.handlers.size(); n++) {
            int[] h = m.handlers.get(n);
            List<Set<Integer>> p = parts(h);
            for (Set<Integer> s : p) {
                if (s.isEmpty()) throw new Wrong(8, n);
                for (int k : s) if (k >= m.code.size()) throw new Wrong(8, n);
            }
            for (int i = 0; i < p.size(); i++) for (int j = 0; j < i; j++) if (meet(p.get(i), p.get(j))) throw new Wrong(8, n);
            if (h[0] == 0 && (!goodIn(x(h[5]), m.type) || !isA(x(h[5]), X.FAULT))) throw new Wrong(8, n);
            for (int g = 0; g < n; g++) if (!stands(m.handlers.get(g), h)) throw new Wrong(8, n);
        }
    }

    List<X> parameters(Me m) {
        List<X> all = new ArrayList<>();
        if (m.mode != 0) all.add(types.get(m.type).kind == 1 ? self(m.type).place() : self(m.type));
        all.addAll(m.given);
        return all;
    }

    Check check(Me m) {
        Check c = new Check();
        if (types.get(m.type).kind > 1) return c;
        try {
            if (!whole(m.type)) throw new Wrong(9, NONE);
            handlersRight(m);
            goThrough(m, c);
        } catch (Wrong w) {
            c.kind = w.kind;
            seen("error " + w.kind);
            c.place = w.place;
        }
        return c;
    }

    private void goThrough(Me m, Check c) {
        int n = m.code.size();
        for (int k = 0; k < n; k++) c.states.add(null);
        if (n == 0) throw new Wrong(6, 0);
        c.states.set(0, new ArrayList<>());
        for (int[] h : m.handlers) {
            List<Set<Integer>> p = parts(h);
            for (int k = 1; k < p.size(); k++) if (p.get(k).contains(0)) throw new Wrong(5, 0);
        }
        Set<Integer> todo = new HashSet<>(Set.of(0));
        while (!todo.isEmpty()) {
            int p = todo.stream().min(Integer::compare).get();
            todo.remove(p);
            new Look(m, c, p, todo).look();
        }
    }

    /** One instruction as it is looked at. */
    private final class Look {
        final Me m;
        final Check c;
        final int p;
        final Set<Integer> todo;
        final int op;
        final int a;
        final int b;
        final List<Entry> stack;
        boolean near;

        Look(Me m, Check c, int p, Set<Integer> todo) {
            this.m = m;
            this.c = c;
            this.p = p;
            this.todo = todo;
            this.op = m.code.get(p)[0];
            this.a = m.code.get(p)[1];
            this.b = m.code.get(p)[2];
            this.stack = new ArrayList<>(c.states.get(p));
        }

        private void need(boolean is, int kind) {
            if (!is) throw new Wrong(kind, p);
        }

        private X xa() {
            need(goodIn(x(a), m.type), 1);
            return x(a);
        }

        private X noPlace() {
            need(!xa().isPlace(), 1);
            return xa();
        }

        private X xb() {
            need(goodIn(x(b), m.type), 1);
            return x(b);
        }

        private X bound() {
            return types.get(m.type).bound;
        }

        // What is told of an entry, for kind 3.
        interface Is {
            boolean so(Entry e);
        }

        private boolean ref(Entry e) {
            return e.x == null || isReference(e.x);
        }

        private Is under(X y) {
            return e -> e.x == null || isA(e.x, y);
        }

        private Is into(X y) {
            return e -> e.x == null ? isReference(y) : e.x.equals(y) || isA(e.x, y);
        }

        private Is placeOf(X y) {
            return e -> e.x != null && e.x.equals(y.place());
        }

        private final Is isInt = e -> X.INT.equals(e.x);
        private final Is isRef = this::ref;
        private final Is truth = e -> ref(e) || X.INT.equals(e.x);
        private final Is any = e -> true;

        private List<Is> wants = new ArrayList<>();
        private List<Entry> leaves = new ArrayList<>();
        private List<Entry> taken = new ArrayList<>();

        private void want(Is... all) {
            wants.addAll(Arrays.asList(all));
        }

        private void leave(X x) {
            leaves.add(new Entry(x, false));
        }

        /** Kinds 1 and 5; then 2 and 3; then 7 and 2. */
        void look() {
            X result = read();
            Set<Integer> smallest = null;
            int[] of = null;
            int which = 0;
            for (int[] h : m.handlers) {
                List<Set<Integer>> parts = parts(h);
                for (int k = 0; k < parts.size(); k++) {
                    if (!parts.get(k).contains(p) || smallest != null && smallest.size() <= parts.get(k).size()) continue;
                    smallest = parts.get(k);
                    of = h;
                    which = k;
                }
            }
            if (op == 25) need(smallest == null, 5);
            if (op == 49) need(smallest != null && which == 1 && of[0] >= 2, 5);
            if (op == 50) need(smallest != null && which == 2, 5);
            need(stack.size() >= wants.size(), 2);
            if (op == 25 || op == 50) need(stack.size() == wants.size(), 2);
            int base = stack.size() - wants.size();
            for (int k = wants.size() - 1; k >= 0; k--) need(wants.get(k).so(stack.get(base + k)), 3);
            for (int k = 0; k < wants.size(); k++) taken.add(stack.get(base + k));
            while (stack.size() > base) stack.remove(stack.size() - 1);
            if (op == 14) need(X.INT.equals(taken.get(0).x) == X.INT.equals(taken.get(1).x), 3);
            if (op == 45 && wants.isEmpty()) need(bindFits(null), 3);
            for (Entry e : taken) if (e.near) near = true;
            if (op == 4 || op == 25) need(!near, 7);
            if (op == 19) {
                leaves.add(taken.get(0));
                leaves.add(taken.get(0));
            }
            if (op == 7 || op == 8) leaves.set(0, new Entry(leaves.get(0).x, true));
            if (op == 28) leaves.set(0, new Entry(leaves.get(0).x, near));
            if (result != null) leaves.add(new Entry(result, result.isPlace() && near));
            if (op == 48 || op == 49) stack.clear();
            stack.addAll(leaves);
            need(stack.size() <= 8, 2);
            behind();
        }

        private void given(Me k, X x) {
            for (X g : k.given) want(into(g.with(x.argument())));
        }

        private boolean bindFits(X target) {
            Me k = methods.get(a);
            Me d = methods.stream().filter(q -> q.type == xb().type).findFirst().get();
            if (target == null) return k.mode == 0 && signature(k, self(k.type)).equals(signature(d, xb()));
            for (X h : bases(target)) {
                if ((h.what == 4 || h.what == 5) && h.type == k.type) return signature(k, h).equals(signature(d, xb()));
            }
            return false;
        }

        /** Reads the numbers; the RESULT of what is called, if there is one. */
        private X read() {
            List<X> parameters = parameters(m);
            switch (op) {
                case 0: case 49: case 54: case 55: break;
                case 1: need(a >= -9999 && a <= 9999, 1); leave(X.INT); break;
                case 2: leaves.add(Entry.NULL); break;
                case 3: need(a >= 0 && a < parameters.size(), 1); leave(parameters.get(a)); break;
                case 4: need(a >= 0 && a < parameters.size(), 1); want(into(parameters.get(a))); break;
                case 5: need(a >= 0 && a < m.locals.size(), 1); leave(m.locals.get(a)); break;
                case 6: need(a >= 0 && a < m.locals.size(), 1); want(into(m.locals.get(a))); break;
                case 7:
                    need(a >= 0 && a < parameters.size() && !parameters.get(a).isPlace(), 1);
                    leave(parameters.get(a).place());
                    break;
                case 8: need(a >= 0 && a < m.locals.size(), 1); leave(m.locals.get(a).place()); break;
                case 9: case 10: case 11: case 12: case 13: case 15: want(isInt, isInt); leave(X.INT); break;
                case 14: want(truth, truth); leave(X.INT); break;
                case 16: case 48: need(a >= 0 && a < m.code.size(), 1); break;
                case 17: case 18: need(a >= 0 && a < m.code.size(), 1); want(truth); break;
                case 19: case 20: want(any); break;
                case 21:
                    need(xa().equals(X.OBJECT) || xa().equals(X.FAULT) || kind(xa()) == 0, 1);
                    leave(xa());
                    break;
                case 22: case 23: case 24: return readCall();
                case 25: if (m.result != null) want(into(m.result)); break;
                case 26: case 27: case 28: case 29: case 30: case 31: readField(); break;
                case 32: want(into(noPlace())); leave(X.OBJECT); break;
                case 33: need(isValue(xa()), 1); want(isRef); leave(xa().place()); break;
                case 34: want(isRef); leave(noPlace()); break;
                case 35: need(isReference(xa()), 1); want(isRef); leave(xa()); break;
                case 36: want(isRef); leave(isReference(noPlace()) ? xa() : X.OBJECT); break;
                case 37: want(isInt); leave(noPlace().row()); break;
                case 38: want(e -> e.x == null || e.x.isRow()); leave(X.INT); break;
                case 39: {
                    X x = noPlace();
                    want(e -> e.x == null || e.x.isRow() && (e.x.of.equals(x) || isA(e.x.of, x)), isInt);
                    leave(x);
                    break;
                }
                case 40: {
                    X x = noPlace();
                    want(e -> e.x == null || e.x.isRow() && (e.x.of.equals(x) || isA(x, e.x.of)), isInt, into(x));
                    break;
                }
                case 41: {
                    X x = noPlace();
                    want(e -> e.x == null || e.x.isRow() && e.x.of.equals(x), isInt);
                    leave(x.place());
                    break;
                }
                case 42: want(placeOf(noPlace())); leave(xa()); break;
                case 43: want(placeOf(noPlace()), into(xa())); break;
                case 44: want(placeOf(noPlace())); break;
                case 45: readBind(); break;
                case 46: {
                    X x = xa();
                    need(kind(x) == 3 && whole(x.type), 1);
                    Me d = methods.stream().filter(q -> q.type == x.type).findFirst().get();
                    want(under(x));
                    given(d, x);
                    return d.result == null ? null : d.result.with(x.argument());
                }
                case 47: want(under(X.FAULT)); break;
                case 50: case 51: want(isInt); break;
                case 52: leave(X.INT); break;
                case 53: want(isRef); break;
                case 56: want(under(X.FAULT)); leave(X.INT); break;
                case 57: want(under(X.FAULT), isInt); break;
                default: throw new IllegalStateException();
            }
            return null;
        }

        private X readCall() {
            need(a >= 0 && a < methods.size(), 1);
            Me k = methods.get(a);
            X x = xb();
            int kind = types.get(k.type).kind;
            need((x.what == 4 || x.what == 5) && x.type == k.type, 1);
            if (op == 22) need(kind == 0 || kind == 1, 1);
            if (op == 23) need((kind == 0 || kind == 2) && k.mode != 0, 1);
            if (op == 24) {
                need(kind == 2, 1);
                want(e -> e.x != null && e.x.isPlace() && (keeps(e.x.of, x, bound()) || isA(e.x.of, x)));
            } else if (k.mode != 0) {
                want(kind == 1 ? placeOf(x) : under(x));
            }
            given(k, x);
            return k.result == null ? null : k.result.with(x.argument());
        }

        private void readField() {
            need(a >= 0 && a < fields.size(), 1);
            Fd f = fields.get(a);
            X x = xb();
            need((x.what == 4 || x.what == 5) && x.type == f.type && f.isStatic == op >= 29, 1);
            X v = f.x.with(x.argument());
            boolean struct = kind(x) == 1;
            if (op <= 28) {
                Is place = placeOf(x);
                if (!struct) want(under(x));
                else if (op == 26) want(e -> place.so(e) || x.equals(e.x));
                else want(place);
            }
            if (op == 26 || op == 29) leave(v);
            if (op == 27 || op == 30) want(into(v));
            if (op == 28 || op == 31) leave(v.place());
        }

        private void readBind() {
            need(a >= 0 && a < methods.size(), 1);
            Me k = methods.get(a);
            X x = xb();
            need(kind(x) == 3 && whole(x.type), 1);
            Ty t = types.get(k.type);
            if (k.mode == 0) {
                need(!t.open, 1);
            } else {
                need(t.kind == 0, 1);
                want(e -> e.x != null && bindFits(e.x));
            }
            leave(x);
        }

        private void behind() {
            for (int[] h : m.handlers) {
                if (!parts(h).get(0).contains(p)) continue;
                List<Entry> fault = List.of(new Entry(h[0] == 0 ? x(h[5]) : X.FAULT, false));
                if (h[0] == 1) merge(h[5], fault);
                merge(h[3], h[0] <= 1 ? fault : List.of());
            }
            if (op != 16 && op != 25 && op != 47 && op != 48 && op != 49 && op != 50) {
                need(p + 1 < m.code.size(), 6);
                way(p + 1);
            }
            if (op == 16 || op == 17 || op == 18 || op == 48) way(a);
        }

        private void way(int q) {
            for (int[] h : m.handlers) {
                List<Set<Integer>> parts = parts(h);
                for (int k = 0; k < parts.size(); k++) {
                    boolean here = parts.get(k).contains(p);
                    boolean there = parts.get(k).contains(q);
                    if (here && !there) need(op == 48 && (k == 0 || k == 1 && h[0] <= 1), 5);
                    if (there && !here) need(k == 0 && h[1] == q && stack.isEmpty(), 5);
                }
            }
            merge(q, stack);
        }

        private void merge(int q, List<Entry> with) {
            List<Entry> old = c.states.get(q);
            if (old == null) {
                c.states.set(q, new ArrayList<>(with));
                todo.add(q);
                return;
            }
            if (old.size() != with.size()) throw new Wrong(4, q);
            List<Entry> made = new ArrayList<>();
            for (int k = 0; k < old.size(); k++) made.add(together(old.get(k), with.get(k), q));
            if (made.equals(old)) return;
            c.states.set(q, made);
            todo.add(q);
        }

        private Entry together(Entry e, Entry f, int q) {
            if (e.x == null && f.x == null) return e;
            if (e.x == null && isReference(f.x)) return f;
            if (f.x == null && isReference(e.x)) return e;
            if (e.x == null || f.x == null) throw new Wrong(4, q);
            if (e.x.equals(f.x)) return new Entry(e.x, e.near || f.near);
            if (isReference(e.x) && isReference(f.x)) {
                List<X> others = bases(f.x);
                for (X g : bases(e.x)) if (others.contains(g)) return new Entry(g, false);
            }
            throw new Wrong(4, q);
        }
    }

    boolean allRight() {
        for (int t = 0; t < types.size(); t++) if (!whole(t)) return false;
        for (Me m : methods) if (check(m).kind != 0) return false;
        return true;
    }

    boolean entry(Me m) {
        return m.mode == 0 && !types.get(m.type).open && (m.result == null || m.result.equals(X.INT)) && m.given.stream().allMatch(X.INT::equals);
    }

    // ---------------------------------------------------------------- running

    static final class Thing {
        int number;
        X type;
        int cells;
        int code;
        boolean hasCode;
        List<Fd> names = new ArrayList<>();
        Object[] values = {};
        X[] kinds = {};
        Me bound;
        X holder;
        Thing target;
    }

    /** The value of a STRUCT. */
    static final class Parts {
        X type;
        Object[] values;
        X[] kinds;
    }

    /** A PLACE: a cell of a row of values; in a THING, or in none. */
    record Place(Object[] row, int k, X of, Thing in) {
    }

    static final class Frame {
        Me m;
        X holder;
        int place;
        Object[] parameters;
        X[] parameterTypes;
        Object[] locals;
        X[] localTypes;
        List<Object> stack = new ArrayList<>();
        List<X> kinds = new ArrayList<>();
        int[] test;
        Thing testFor;
        IntConsumer told;
        TreeMap<Integer, Runnable> behind = new TreeMap<>();
        TreeMap<Integer, Thing> behindFault = new TreeMap<>();
    }

    final class Run {
        final List<Frame> frames = new ArrayList<>();
        final List<Thing> pins = new ArrayList<>();
        final java.util.LinkedHashMap<String, Object[]> statics = new java.util.LinkedHashMap<>();
        final java.util.LinkedHashMap<String, X> staticTypes = new java.util.LinkedHashMap<>();
        final Set<String> bodies = new HashSet<>();
        final StringBuilder out = new StringBuilder();
        final boolean way1;
        final boolean isShared;
        int things;
        int steps;
        int end = NONE;
        int result;
        Thing uncaught;
        private boolean jumped;

        Run(Me m, boolean way1, int... given) {
            this.way1 = way1;
            this.isShared = shared;
            Frame f = open(m, new X(4, m.type, null));
            for (int k = 0; k < m.given.size(); k++) f.parameters[k] = given[k];
        }

        int code() {
            return end == 1 ? uncaught.code : 0;
        }

        Object zero(X x) {
            if (x.what == 0) return 0;
            if (kind(x) != 1) return null;
            Parts p = new Parts();
            p.type = x;
            List<X> kinds = new ArrayList<>();
            for (Fd f : fields) if (f.type == x.type && !f.isStatic) kinds.add(f.x);
            p.kinds = kinds.toArray(new X[0]);
            p.values = new Object[p.kinds.length];
            for (int k = 0; k < p.values.length; k++) p.values[k] = zero(p.kinds[k]);
            return p;
        }

        Object copy(Object v) {
            if (!(v instanceof Parts p)) return v;
            Parts q = new Parts();
            q.type = p.type;
            q.kinds = p.kinds;
            q.values = new Object[p.values.length];
            for (int k = 0; k < q.values.length; k++) q.values[k] = copy(p.values[k]);
            return q;
        }

        /** Puts a value into a cell; PLACES that lead into the STRUCT there stay good. */
        void assign(Object[] row, int k, Object v) {
            if (v instanceof Parts p && row[k] instanceof Parts q) {
                for (int n = 0; n < p.values.length; n++) assign(q.values, n, p.values[n]);
            } else {
                row[k] = copy(v);
            }
        }

        Frame top() {
            return frames.get(frames.size() - 1);
        }

        private Frame open(Me m, X holder) {
            Frame f = new Frame();
            f.m = m;
            f.holder = holder;
            List<X> ps = new ArrayList<>();
            for (X x : parameters(m)) ps.add(x.with(holder.argument()));
            f.parameterTypes = ps.toArray(new X[0]);
            f.parameters = new Object[ps.size()];
            f.localTypes = m.locals.stream().map(x -> x.with(holder.argument())).toArray(X[]::new);
            f.locals = new Object[f.localTypes.length];
            for (int k = 0; k < f.locals.length; k++) f.locals[k] = zero(f.localTypes[k]);
            frames.add(f);
            X argument = holder.argument();
            String key = argument == null ? "none" : isShared && isReference(argument) ? "reference" : "of " + argument;
            bodies.add(m.no + " " + key);
            return f;
        }

        // ---- reach

        private void lead(Object v, Set<Thing> found, List<Thing> queue) {
            if (v instanceof Thing t && found.add(t)) queue.add(t);
            if (v instanceof Place p && p.in != null && found.add(p.in)) queue.add(p.in);
            if (v instanceof Parts p) for (Object w : p.values) lead(w, found, queue);
        }

        TreeMap<Integer, Thing> reached() {
            Set<Thing> found = new HashSet<>();
            List<Thing> queue = new ArrayList<>();
            for (Frame f : frames) {
                for (Object v : f.parameters) lead(v, found, queue);
                for (Object v : f.locals) lead(v, found, queue);
                for (Object v : f.stack) lead(v, found, queue);
                lead(f.testFor, found, queue);
                for (Thing t : f.behindFault.values()) lead(t, found, queue);
            }
            for (Object[] s : statics.values()) lead(s[0], found, queue);
            for (Thing t : pins) lead(t, found, queue);
            lead(uncaught, found, queue);
            while (!queue.isEmpty()) {
                Thing t = queue.remove(0);
                for (Object v : t.values) lead(v, found, queue);
                lead(t.target, found, queue);
            }
            TreeMap<Integer, Thing> all = new TreeMap<>();
            for (Thing t : found) all.put(t.number, t);
            return all;
        }

        int reachedCells() {
            return reached().values().stream().mapToInt(t -> t.cells).sum();
        }

        // ---- things

        private Thing thing(X type, int cells) {
            Thing t = new Thing();
            t.type = type;
            t.number = ++things;
            t.cells = cells;
            return t;
        }

        private List<Object[]> layout(X x) {
            List<X> chain = bases(x);
            List<Object[]> all = new ArrayList<>();
            for (int k = chain.size() - 1; k >= 0; k--) {
                X b = chain.get(k);
                if (kind(b) != 0) continue;
                for (Fd f : fields) if (f.type == b.type && !f.isStatic) all.add(new Object[] {f, f.x.with(b.argument())});
            }
            return all;
        }

        private int objectCells(X x) {
            int sum = 2 + (isA(x, X.FAULT) ? 1 : 0);
            for (Object[] f : layout(x)) sum += cells((X) f[1]);
            return sum;
        }

        private Thing object(X x) {
            Thing t = thing(x, objectCells(x));
            t.hasCode = isA(x, X.FAULT);
            List<Object[]> all = layout(x);
            t.values = new Object[all.size()];
            t.kinds = new X[all.size()];
            for (int k = 0; k < all.size(); k++) {
                t.names.add((Fd) all.get(k)[0]);
                t.kinds[k] = (X) all.get(k)[1];
                t.values[k] = zero(t.kinds[k]);
            }
            return t;
        }

        boolean isOf(Thing t, X x) {
            if (t.type.equals(x) || isA(t.type, x)) return true;
            return isValue(t.type) && (x.equals(X.OBJECT) || keeps(t.type, x, null));
        }

        // ---- steps

        int step(int many) {
            int done = 0;
            while (done < many && end == NONE) {
                oneStep();
                done++;
                steps++;
                if (end == NONE && steps == 600) end = 2;
            }
            return done;
        }

        private Object pop() {
            Frame f = top();
            f.kinds.remove(f.kinds.size() - 1);
            return f.stack.remove(f.stack.size() - 1);
        }

        private Object peek(int k) {
            Frame f = top();
            return f.stack.get(f.stack.size() - 1 - k);
        }

        private X kindAt(int k) {
            Frame f = top();
            return f.kinds.get(f.kinds.size() - 1 - k);
        }

        private void push(Object v, X kind) {
            top().stack.add(copy(v));
            top().kinds.add(kind);
        }

        private void clear(Frame f) {
            f.stack.clear();
            f.kinds.clear();
        }

        private void raise(int code) {
            Thing t = object(X.FAULT);
            t.code = code;
            throwThing(t);
        }

        static final class Code extends RuntimeException {
            final int code;

            Code(int code) {
                super(null, null, false, false);
                this.code = code;
            }
        }

        private void fail(boolean is, int code) {
            if (is) throw new Code(code);
        }

        private void room(int cells) {
            fail(reachedCells() + cells > limit, 5);
        }

        private void oneStep() {
            Frame f = top();
            jumped = false;
            try {
                done(f, f.m.code.get(f.place));
            } catch (Code c) {
                seen("code " + c.code + " of op " + f.m.code.get(f.place)[0]);
                raise(c.code);
                return;
            }
            if (!jumped) f.place++;
        }

        private void go(Frame f, int to) {
            f.place = to;
            jumped = true;
        }

        private void done(Frame f, int[] line) {
            int op = line[0];
            int a = line[1];
            X arg = f.holder.argument();
            seen("op " + (op < 10 ? "0" : "") + op);
            X xa = Model.this.x(a) == null ? null : Model.this.x(a).with(arg);
            X xb = Model.this.x(line[2]) == null ? null : Model.this.x(line[2]).with(arg);
            switch (op) {
                case 0: break;
                case 1: push(a, X.INT); break;
                case 2: push(null, X.OBJECT); break;
                case 3: push(f.parameters[a], f.parameterTypes[a]); break;
                case 4: assign(f.parameters, a, pop()); break;
                case 5: push(f.locals[a], f.localTypes[a]); break;
                case 6: assign(f.locals, a, pop()); break;
                case 7: push(new Place(f.parameters, a, f.parameterTypes[a], null), f.parameterTypes[a].place()); break;
                case 8: push(new Place(f.locals, a, f.localTypes[a], null), f.localTypes[a].place()); break;
                case 9: case 10: case 11: case 12: case 13: case 15: sum(op); break;
                case 14: {
                    Object q = pop();
                    Object p = pop();
                    boolean same = p instanceof Integer ? p.equals(q) : p == q;
                    push(same ? 1 : 0, X.INT);
                    break;
                }
                case 16: go(f, a); break;
                case 17: case 18: {
                    Object v = pop();
                    boolean is = v instanceof Integer i ? i != 0 : v != null;
                    if (is == (op == 17)) go(f, a);
                    break;
                }
                case 19: push(peek(0), kindAt(0)); break;
                case 20: pop(); break;
                case 21: room(objectCells(xa)); push(object(xa), xa); break;
                case 22: case 23: case 24: call(op, methods.get(a), xb); break;
                case 25: ret(f); break;
                case 26: case 27: case 28: field(op, fields.get(a), xb); break;
                case 29: push(cell(fields.get(a), xb)[0], fields.get(a).x.with(xb.argument())); break;
                case 30: assign(cell(fields.get(a), xb), 0, pop()); break;
                case 31: {
                    X v = fields.get(a).x.with(xb.argument());
                    push(new Place(cell(fields.get(a), xb), 0, v, null), v.place());
                    break;
                }
                case 32: case 33: case 34: case 35: case 36: box(op, xa); break;
                case 37: case 38: case 39: case 40: case 41: row(op, xa); break;
                case 42: {
                    Place p = (Place) pop();
                    push(p.row[p.k], xa);
                    break;
                }
                case 43: {
                    Object v = pop();
                    Place p = (Place) pop();
                    assign(p.row, p.k, v);
                    break;
                }
                case 44: {
                    Place p = (Place) pop();
                    assign(p.row, p.k, zero(xa));
                    break;
                }
                case 45: bind(methods.get(a), xb); break;
                case 46: invoke(xa); break;
                case 47: {
                    fail(peek(0) == null, 1);
                    throwThing((Thing) peek(0));
                    jumped = true;
                    break;
                }
                case 48: clear(f); leave(f, f.place, a, 0); jumped = true; break;
                case 49: endFinally(f); jumped = true; break;
                case 50: {
                    int told = (Integer) pop();
                    frames.remove(frames.size() - 1);
                    f.told.accept(told);
                    jumped = true;
                    break;
                }
                case 51: out.append(out.length() > 0 ? " " : "").append(pop()); break;
                case 52: push(reachedCells(), X.INT); break;
                case 53: {
                    Thing t = (Thing) pop();
                    if (t != null && pins.size() < 4) pins.add(t);
                    break;
                }
                case 54: if (!pins.isEmpty()) pins.remove(pins.size() - 1); break;
                case 55: break;
                case 56: {
                    fail(peek(0) == null, 1);
                    push(((Thing) pop()).code, X.INT);
                    break;
                }
                case 57: {
                    fail(peek(1) == null, 1);
                    int v = (Integer) pop();
                    ((Thing) pop()).code = v;
                    break;
                }
                default: throw new IllegalStateException();
            }
        }

        private void sum(int op) {
            int q = (Integer) peek(0);
            int p = (Integer) peek(1);
            fail((op == 12 || op == 13) && q == 0, 4);
            pop();
            pop();
            long r = switch (op) {
                case 9 -> (long) p + q;
                case 10 -> (long) p - q;
                case 11 -> (long) p * q;
                case 12 -> (long) p / q;
                case 13 -> (long) p % q;
                default -> p < q ? 1 : 0;
            };
            push((int) r, X.INT);
        }

        private Object[] cell(Fd f, X x) {
            String key = fields.indexOf(f) + " " + x;
            staticTypes.put(key, f.x.with(x.argument()));
            return statics.computeIfAbsent(key, k -> new Object[] {zero(f.x.with(x.argument()))});
        }

        private void field(int op, Fd f, X x) {
            Object base = peek(op == 27 ? 1 : 0);
            Object[] row;
            int k;
            Thing in;
            X v = f.x.with(x.argument());
            if (kind(x) == 0) {
                fail(base == null, 1);
                in = (Thing) base;
                row = in.values;
                k = in.names.indexOf(f);
            } else {
                Object at = base instanceof Place p ? p.row[p.k] : base;
                in = base instanceof Place p ? p.in : null;
                row = ((Parts) at).values;
                k = 0;
                for (Fd g : fields) {
                    if (g == f) break;
                    if (g.type == f.type && !g.isStatic) k++;
                }
            }
            if (op == 26) {
                pop();
                push(row[k], v);
            } else if (op == 27) {
                Object value = pop();
                pop();
                assign(row, k, value);
            } else {
                pop();
                push(new Place(row, k, v, in), v.place());
            }
        }

        private void box(int op, X x) {
            Object v = peek(0);
            if (op == 32) {
                if (isReference(x)) {
                    push(pop(), X.OBJECT);
                    return;
                }
                room(2 + cells(x));
                Thing t = thing(x, 2 + cells(x));
                t.values = new Object[] {copy(pop())};
                t.kinds = new X[] {x};
                push(t, X.OBJECT);
                return;
            }
            Thing t = (Thing) v;
            if (op == 36) {
                pop();
                push(t != null && isOf(t, x) ? t : null, isReference(x) ? x : X.OBJECT);
            } else if (op == 35 || op == 34 && isReference(x)) {
                fail(t != null && !isOf(t, x), 3);
                pop();
                push(t, x);
            } else {
                fail(t == null, 1);
                fail(!t.type.equals(x), 3);
                pop();
                if (op == 33) push(new Place(t.values, 0, x, t), x.place());
                else push(t.values[0], x);
            }
        }

        private void row(int op, X x) {
            if (op == 37) {
                int n = (Integer) peek(0);
                fail(n < 0 || n > 12, 8);
                room(3 + n * cells(x));
                Thing t = thing(x.row(), 3 + n * cells(x));
                t.values = new Object[n];
                t.kinds = new X[n];
                for (int k = 0; k < n; k++) {
                    t.values[k] = zero(x);
                    t.kinds[k] = x;
                }
                pop();
                push(t, x.row());
                return;
            }
            Thing t = (Thing) peek(op == 38 ? 0 : op == 40 ? 2 : 1);
            fail(t == null, 1);
            if (op == 38) {
                pop();
                push(t.values.length, X.INT);
                return;
            }
            int k = (Integer) peek(op == 40 ? 1 : 0);
            fail(k < 0 || k >= t.values.length, 2);
            if (op == 39) {
                pop();
                pop();
                push(t.values[k], x);
            } else if (op == 40) {
                if (isReference(x)) fail(peek(0) != null && !isOf((Thing) peek(0), t.type.of), 7);
                Object v = pop();
                pop();
                pop();
                assign(t.values, k, v);
            } else {
                if (isReference(x)) fail(!t.type.of.equals(x), 7);
                pop();
                pop();
                push(new Place(t.values, k, x, t), x.place());
            }
        }

        private void bind(Me m, X x) {
            Thing target = m.mode == 0 ? null : (Thing) peek(0);
            Me bound = m;
            X holder = new X(4, m.type, null);
            if (m.mode != 0) {
                fail(target == null, 1);
                X h = bases(target.type).stream().filter(b -> (b.what == 4 || b.what == 5) && b.type == m.type).findFirst().get();
                if (m.mode == 2) bound = (Me) answer(target.type, m, h)[0];
                Me found = bound;
                holder = bases(target.type).stream().filter(b -> (b.what == 4 || b.what == 5) && b.type == found.type).findFirst().get();
            }
            room(5);
            if (m.mode != 0) pop();
            Thing t = thing(x, 5);
            t.bound = bound;
            t.holder = holder;
            t.target = target;
            push(t, x);
        }

        // ---- calls

        private void call(int op, Me m, X x) {
            int given = m.given.size();
            Me called = m;
            X holder = x;
            Object self = m.mode == 0 ? null : peek(given);
            if (m.mode != 0) {
                if (op == 24) {
                    Place p = (Place) self;
                    if (isReference(p.of)) self = p.row[p.k];
                }
                fail(self == null, 1);
                if (op != 22 && m.mode == 2) {
                    X c = self instanceof Place p ? p.of : ((Thing) self).type;
                    Object[] found = answer(c, m, x);
                    called = (Me) found[0];
                    holder = (X) found[1];
                    if (self instanceof Thing t && isValue(t.type)) self = new Place(t.values, 0, t.type, t);
                }
            }
            fail(frames.size() == 8, 6);
            List<Object> all = new ArrayList<>();
            for (int k = 0; k < given; k++) all.add(0, pop());
            if (m.mode != 0) {
                pop();
                all.add(0, self);
            }
            enter(called, holder, all);
        }

        private void enter(Me m, X holder, List<Object> all) {
            Frame f = open(m, holder);
            for (int k = 0; k < all.size(); k++) f.parameters[k] = copy(all.get(k));
            jumped = true;
        }

        private void invoke(X x) {
            Me d = methods.stream().filter(q -> q.type == x.type).findFirst().get();
            Thing t = (Thing) peek(d.given.size());
            fail(t == null, 1);
            fail(frames.size() == 8, 6);
            List<Object> all = new ArrayList<>();
            for (int k = 0; k < d.given.size(); k++) all.add(0, pop());
            pop();
            if (t.bound.mode != 0) all.add(0, t.target);
            enter(t.bound, t.holder, all);
        }

        private void ret(Frame f) {
            Object v = f.m.result == null ? null : pop();
            frames.remove(frames.size() - 1);
            jumped = true;
            if (frames.isEmpty()) {
                end = 0;
                result = f.m.result == null ? 0 : (Integer) v;
                return;
            }
            if (f.m.result != null) push(v, f.m.result.with(f.holder.argument()));
            top().place++;
        }

        // ---- faults

        private boolean sees(Frame f, int[] h, int p) {
            if (p < h[1] || p >= h[2]) return false;
            return f.test == null || h[1] >= f.test[5] && h[2] <= f.test[3];
        }

        private void throwThing(Thing t) {
            clear(top());
            firstGo(t, frames.size() - 1, 0);
        }

        private void firstGo(Thing t, int frame, int handler) {
            int n = handler;
            for (int k = frame; k >= 0; k--) {
                Frame f = frames.get(k);
                for (; n < f.m.handlers.size(); n++) {
                    int[] h = f.m.handlers.get(n);
                    if (!sees(f, h, f.place)) continue;
                    if (h[0] == 0 && isOf(t, Model.this.x(h[5]).with(f.holder.argument()))) {
                        secondGo(t, f, n, 0, top().place);
                        return;
                    }
                    if (h[0] == 1 && frames.size() < 8) {
                        test(t, k, n);
                        return;
                    }
                }
                if (f.test != null) break;
                n = 0;
            }
            secondGo(t, null, NONE, 0, top().place);
        }

        private void test(Thing t, int frame, int n) {
            Frame f = frames.get(frame);
            seen("test" + (f.test != null ? " in a test" : "") + (frame < frames.size() - 1 ? " for a frame below" : ""));
            Frame g = new Frame();
            g.m = f.m;
            g.holder = f.holder;
            g.parameters = f.parameters;
            g.parameterTypes = f.parameterTypes;
            g.locals = f.locals;
            g.localTypes = f.localTypes;
            g.test = f.m.handlers.get(n);
            g.testFor = t;
            g.place = g.test[5];
            frames.add(g);
            push(t, X.FAULT);
            g.told = told -> {
                seen("test told " + (told != 0 ? 1 : 0));
                if (told != 0) secondGo(t, f, n, 0, top().place);
                else firstGo(t, frame, n + 1);
            };
        }

        /** From the handler n of the FRAME on top on, which was at the place p. */
        private void secondGo(Thing t, Frame meant, int meantHandler, int n, int p) {
            Frame f = top();
            int most = f == meant ? meantHandler : f.m.handlers.size();
            for (int k = n; k < most; k++) {
                int[] h = f.m.handlers.get(k);
                if (h[0] < 2 || !sees(f, h, p)) continue;
                int next = k + 1;
                seen("second go does a block" + (meant == null ? " for none" : f == meant ? "" : " above") + (f.test != null ? " in a test" : "") + (k > 0 && n > 0 ? " again" : ""));
                block(f, h);
                f.behind.put(k, () -> secondGo(t, meant, meantHandler, next, p));
                f.behindFault.put(k, t);
                return;
            }
            if (f == meant) {
                seen("meant" + (f.test != null ? " in a test" : "") + (n > 0 ? " behind a block" : ""));
                block(f, f.m.handlers.get(meantHandler));
                push(t, t.type);
                return;
            }
            frames.remove(frames.size() - 1);
            if (f.test != null) {
                seen("test ended by a fault");
                f.told.accept(0);
            } else if (frames.isEmpty()) {
                uncaught = t;
                end = 1;
            } else {
                secondGo(t, meant, meantHandler, 0, top().place);
            }
        }

        private void block(Frame f, int[] h) {
            for (int g = 0; g < f.m.handlers.size(); g++) {
                int[] other = f.m.handlers.get(g);
                if (h[1] >= other[3] && h[2] <= other[4]) continue;
                if (f.behind.containsKey(g)) seen("forgotten" + (f.behindFault.containsKey(g) ? " fault" : " leave"));
                f.behind.remove(g);
                f.behindFault.remove(g);
            }
            clear(f);
            f.place = h[3];
        }

        private void leave(Frame f, int p, int to, int n) {
            clear(f);
            for (int k = n; k < f.m.handlers.size(); k++) {
                int[] h = f.m.handlers.get(k);
                if (h[0] != 2 || p < h[1] || p >= h[2] || to >= h[1] && to < h[2]) continue;
                int next = k + 1;
                seen("leave does a block" + (n > 0 ? " again" : ""));
                f.behind.put(k, () -> leave(f, p, to, next));
                f.place = h[3];
                return;
            }
            f.place = to;
        }

        private void endFinally(Frame f) {
            int found = NONE;
            int size = 99;
            for (int k : f.behind.keySet()) {
                int[] h = f.m.handlers.get(k);
                if (f.place >= h[3] && f.place < h[4] && h[4] - h[3] < size) {
                    found = k;
                    size = h[4] - h[3];
                }
            }
            Runnable next = f.behind.remove(found);
            f.behindFault.remove(found);
            clear(f);
            next.run();
        }

        // ---- texts

        String text(Object v) {
            if (v == null) return "null";
            if (v instanceof Thing t) return t.type + "#" + t.number;
            if (v instanceof Place p) return "&" + text(p.row[p.k]);
            if (v instanceof Parts p) return "(" + texts(p.values) + ")";
            return v.toString();
        }

        private String texts(Object[] all) {
            StringBuilder b = new StringBuilder();
            for (int k = 0; k < all.length; k++) b.append(k > 0 ? "," : "").append(text(all[k]));
            return b.toString();
        }

        String text(Thing t) {
            if (t.bound != null) return "m" + t.bound.no + "(" + (t.target == null ? "" : text((Object) t.target)) + ")";
            if (t.type.isRow()) return "[" + texts(t.values) + "]";
            if (isValue(t.type)) return "<" + texts(t.values) + ">";
            String code = t.hasCode ? t.code + (t.values.length > 0 ? "," : "") : "";
            return "{" + code + texts(t.values) + "}";
        }
    }
}
