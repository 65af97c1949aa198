import java.util.ArrayList;
import java.util.List;

/**
 * The face of the class once more, call by call as the document tells it, above the {@link Model}: exceptions, reasons, what
 * ends the WALK, what is counted. Its methods bear the names of the class's own.
 */
final class Face {
    private static final int NONE = -1;
    // Of which operations the numbers are told behind the name: a; x; m x or f x.
    private static final List<String> WITH_A = List.of("num", "arg", "setarg", "loc", "setloc", "argp", "locp", "go", "if", "ifnot", "leave");
    private static final List<String> WITH_X = List.of("make", "box", "unbox", "unboxa", "cast", "isa", "row", "at", "put", "atp", "load", "store", "init", "invoke");
    private static final List<String> WITH_BOTH = List.of("call", "callv", "callon", "get", "set", "getp", "gets", "sets", "getsp", "bind");

    final Model model;
    private Model.Run walk;
    private Model.Run last;
    private int lastWay;
    private final int[] runs = new int[4];
    private int knocks;

    Face(Model model) {
        this.model = model;
    }

    private static void argument(boolean is) {
        if (!is) throw new IllegalArgumentException();
    }

    private static void index(boolean is) {
        if (!is) throw new IndexOutOfBoundsException();
    }

    private void needWalk() {
        if (walk == null) throw new IllegalStateException();
    }

    private Model.X x(int no) {
        index(no >= 0 && no < model.xs.size());
        return model.xs.get(no);
    }

    private Model.Ty ty(int t) {
        index(t >= 0 && t < model.types.size());
        return model.types.get(t);
    }

    private Model.Ty tyOrNone(int t) {
        return t == NONE ? null : ty(t);
    }

    private Model.Me me(int m) {
        index(m >= 0 && m < model.methods.size());
        return model.methods.get(m);
    }

    // ---- what is made

    /** What tells a minus was not done; else there is no WALK any more. */
    private int made(int told) {
        if (told >= 0) walk = null;
        return told;
    }

    int type(int kind, boolean isOpen, int bound, int base) {
        return made(model.type(kind, isOpen, bound, base));
    }

    int expr(int what, int of, int argument) {
        int before = model.xs.size();
        int told = model.expr(what, of, argument);
        if (model.xs.size() > before) walk = null;
        return told;
    }

    int implement(int type, int x) {
        return made(model.implement(type, x));
    }

    int field(int type, int x, boolean isStatic) {
        return made(model.field(type, x, isStatic));
    }

    int method(int type, int name, int mode, int result) {
        return made(model.method(type, name, mode, result));
    }

    int param(int method, int x) {
        return made(model.param(method, x));
    }

    int local(int method, int x) {
        return made(model.local(method, x));
    }

    int code(int method, int operation, int a, int b) {
        return made(model.code(method, operation, a, b));
    }

    int change(int method, int place, int operation, int a, int b) {
        return made(model.change(method, place, operation, a, b));
    }

    int cut(int method, int many) {
        return made(model.cut(method, many));
    }

    int handler(int method, int kind, int from, int to, int at, int end) {
        return made(model.handler(method, kind, from, to, at, end));
    }

    /** (What a CATCH had before may be a minus itself.) */
    int handles(int method, int handler, int with) {
        int told = model.handles(method, handler, with);
        if (me(method).handlers.get(handler)[0] <= 1) walk = null;
        return told;
    }

    int unhandle(int method) {
        return made(model.unhandle(method));
    }

    int clear() {
        return made(model.clear());
    }

    int sample(int k) {
        argument(k >= 0 && k < SamplesTest.ACTS.length);
        clear();
        int m = NONE;
        int h = NONE;
        for (String act : SamplesTest.ACTS[k].split("; ")) {
            String[] words = act.split(" ");
            int[] n = new int[6];
            for (int i = 1; i < words.length; i++) n[i - 1] = Integer.parseInt(words[i]);
            switch (words[0]) {
                case "T": type(n[0], n[1] == 1, n[2], n[3]); break;
                case "X": expr(n[0], n[1], n[2]); break;
                case "I": implement(n[0], n[1]); break;
                case "F": field(n[0], n[1], n[2] == 1); break;
                case "M": m = method(n[0], n[1], n[2], n[3]); break;
                case "P": param(n[0], n[1]); break;
                case "L": local(n[0], n[1]); break;
                case "C": code(m, n[0], n[1], n[2]); break;
                case "H": h = handler(m, n[0], n[1], n[2], n[3], n[4]); break;
                default: handles(m, h, n[0]); break;
            }
        }
        return model.methods.size();
    }

    // ---- what is asked of types

    int types() {
        return model.types.size();
    }

    int ofType(int type, int what) {
        Model.Ty t = ty(type);
        argument(what >= 0 && what <= 7);
        switch (what) {
            case 0: return t.kind;
            case 1: return t.open ? 1 : 0;
            case 2: return t.boundNo;
            case 3: return t.baseNo;
            case 4: return t.contracts.size();
            case 5: return (int) model.fields.stream().filter(f -> f.type() == type).count();
            case 6: return (int) model.methods.stream().filter(m -> m.type == type).count();
            default: return model.whole(type) ? 1 : 0;
        }
    }

    int exprs() {
        return model.xs.size();
    }

    String exprText(int x) {
        return x(x).toString();
    }

    int cellsOf(int x) {
        return x(x).hasT() ? NONE : model.cells(x(x));
    }

    boolean isA(int x, int y, int type) {
        x(x);
        x(y);
        tyOrNone(type);
        return model.isA(x(x), x(y));
    }

    boolean keeps(int x, int y, int type) {
        x(x);
        x(y);
        Model.Ty t = tyOrNone(type);
        return model.keeps(x(x), x(y), t == null ? null : t.bound);
    }

    boolean isGood(int x, int type) {
        x(x);
        Model.Ty t = tyOrNone(type);
        return model.good(x(x), t != null && t.open, t == null ? null : t.bound);
    }

    int answer(int c, int method, int x) {
        x(c);
        x(x);
        Model.Me m = me(method);
        argument(model.kind(x(c)) == 0 || model.kind(x(c)) == 1);
        argument(model.kind(x(x)) != NONE && x(x).type() == m.type);
        Object[] answer = model.answer(x(c), m, x(x));
        return answer == null ? NONE : ((Model.Me) answer[0]).no;
    }

    int ofField(int field, int what) {
        index(field >= 0 && field < model.fields.size());
        argument(what >= 0 && what <= 2);
        Model.Fd f = model.fields.get(field);
        return what == 0 ? f.type() : what == 1 ? model.xs.indexOf(f.x()) : f.isStatic() ? 1 : 0;
    }

    // ---- what is asked of methods

    int methods() {
        return model.methods.size();
    }

    int ofMethod(int method, int what) {
        Model.Me m = me(method);
        argument(what >= 0 && what <= 7);
        return new int[] {m.type, m.name, m.mode, m.resultNo, m.given.size(), m.locals.size(), m.code.size(), m.handlers.size()}[what];
    }

    private int[] line(int method, int place) {
        Model.Me m = me(method);
        index(place >= 0 && place < m.code.size());
        return m.code.get(place);
    }

    String codeText(int method, int place) {
        int[] l = line(method, place);
        String name = Due.NAMES[l[0]];
        if (WITH_A.contains(name)) return name + " " + l[1];
        if (WITH_X.contains(name)) return name + " " + told(l[1]);
        return WITH_BOTH.contains(name) ? name + " " + l[1] + " " + told(l[2]) : name;
    }

    private String told(int x) {
        return x >= 0 && x < model.xs.size() ? model.xs.get(x).toString() : "?";
    }

    int ofHandler(int method, int handler, int what) {
        Model.Me m = me(method);
        index(handler >= 0 && handler < m.handlers.size());
        argument(what >= 0 && what <= 5);
        return m.handlers.get(handler)[what];
    }

    int error(int method) {
        return model.check(me(method)).kind;
    }

    int errorPlace(int method) {
        return model.check(me(method)).place;
    }

    String state(int method, int place) {
        line(method, place);
        return model.check(me(method)).state(place);
    }

    boolean isRight() {
        return model.allRight();
    }

    // ---- runs

    int limit(int cells) {
        argument(cells >= 20 && cells <= 200);
        int before = model.limit;
        model.limit = cells;
        return before;
    }

    boolean share(boolean are) {
        boolean before = model.shared;
        model.shared = are;
        return before;
    }

    int run(int method, int way, int a, int b, int c) {
        Model.Me m = me(method);
        argument(way == 0 || way == 1);
        if (!model.entry(m)) return -2;
        if (!model.allRight()) return -3;
        last = model.new Run(m, way == 1, a, b, c);
        last.step(600);
        lastWay = way;
        runs[0]++;
        runs[1 + last.end]++;
        return last.end;
    }

    String out() {
        return last == null ? "" : last.out.toString();
    }

    int ofRun(int what) {
        argument(what >= 0 && what <= 4);
        if (last == null) return NONE;
        return new int[] {last.end, last.code(), last.steps, last.result, lastWay == 0 ? 0 : last.bodies.size()}[what];
    }

    boolean areSame(int method, int a, int b, int c) {
        Model.Me m = me(method);
        if (!model.entry(m) || !model.allRight()) throw new IllegalStateException();
        return true;
    }

    // ---- a walk

    int walk(int method, int a, int b, int c) {
        Model.Me m = me(method);
        if (!model.entry(m)) return -2;
        if (!model.allRight()) return -3;
        walk = model.new Run(m, false, a, b, c);
        return 0;
    }

    int step(int many) {
        argument(many >= 1 && many <= 600);
        needWalk();
        return walk.step(many);
    }

    int stop() {
        int before = walk == null ? 0 : 1;
        walk = null;
        return before;
    }

    int ofWalk(int what) {
        argument(what >= 0 && what <= 8);
        needWalk();
        return new int[] {walk.end == NONE ? 1 : 0, walk.end, walk.code(), walk.steps, walk.result, walk.frames.size(), walk.reached().size(),
            walk.reachedCells(), walk.pins.size()}[what];
    }

    String walkOut() {
        needWalk();
        return walk.out.toString();
    }

    private Model.Frame frame(int frame) {
        needWalk();
        index(frame >= 0 && frame < walk.frames.size());
        return walk.frames.get(frame);
    }

    int ofFrame(int frame, int what) {
        Model.Frame f = frame(frame);
        argument(what >= 0 && what <= 2);
        return what == 0 ? f.m.no : what == 1 ? f.place : f.stack.size();
    }

    String holder(int frame) {
        return frame(frame).holder.toString();
    }

    String value(int frame, int what, int k) {
        Model.Frame f = frame(frame);
        int many = what == 0 ? f.parameters.length : what == 1 ? f.locals.length : f.stack.size();
        if (what >= 0 && what <= 2) index(k >= 0 && k < many);
        argument(what >= 0 && what <= 2);
        return walk.text(what == 0 ? f.parameters[k] : what == 1 ? f.locals[k] : f.stack.get(k));
    }

    int reached(int k) {
        needWalk();
        List<Integer> all = new ArrayList<>(walk.reached().keySet());
        return k >= 0 && k < all.size() ? all.get(k) : NONE;
    }

    String thing(int number) {
        needWalk();
        Model.Thing t = walk.reached().get(number);
        return t == null ? "-" : walk.text(t);
    }

    int collect() {
        needWalk();
        return walk.reachedCells();
    }

    // ---- the whole

    int house(int what) {
        argument(what >= 0 && what <= 7);
        if (what <= 3) return runs[what];
        if (what == 4) return model.limit;
        if (what == 5) return model.shared ? 1 : 0;
        return what == 6 ? knocks : (int) model.methods.stream().filter(m -> model.check(m).kind == 0).count();
    }

    int knock() {
        return ++knocks;
    }

    boolean isSound() {
        return true;
    }

    long digest() {
        List<Object> all = new ArrayList<>();
        for (int k = 0; k <= 7; k++) all.add(house(k));
        all.add(types());
        for (int t = 0; t < types(); t++) for (int k = 0; k <= 7; k++) all.add(ofType(t, k));
        all.add(exprs());
        for (int x = 0; x < exprs(); x++) {
            all.add(exprText(x));
            all.add(cellsOf(x));
        }
        all.add(methods());
        for (int m = 0; m < methods(); m++) {
            for (int k = 0; k <= 7; k++) all.add(ofMethod(m, k));
            all.add(error(m));
            all.add(errorPlace(m));
            for (int p = 0; p < ofMethod(m, 6); p++) {
                all.add(codeText(m, p));
                all.add(state(m, p));
            }
        }
        all.add(isRight());
        for (int k = 0; k <= 4; k++) all.add(ofRun(k));
        all.add(out());
        if (walk != null) addWalk(all);
        all.add(isSound());
        long d = 7674;
        for (Object v : all) d = d * 31 + (v instanceof String s ? s.length() : v instanceof Boolean b ? b ? 1 : 0 : (Integer) v);
        return d;
    }

    private void addWalk(List<Object> all) {
        for (int k = 0; k <= 8; k++) all.add(ofWalk(k));
        all.add(walkOut());
        for (int f = 0; f < walk.frames.size(); f++) {
            for (int k = 0; k <= 2; k++) all.add(ofFrame(f, k));
            all.add(holder(f));
            int[] many = {walk.frames.get(f).parameters.length, walk.frames.get(f).locals.length, ofFrame(f, 2)};
            for (int what = 0; what <= 2; what++) for (int k = 0; k < many[what]; k++) all.add(value(f, what, k));
        }
        for (int number : walk.reached().keySet()) {
            all.add(number);
            all.add(thing(number));
        }
    }
}
