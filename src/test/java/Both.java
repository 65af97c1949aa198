import java.util.Map;
import java.util.Objects;
import java.util.TreeMap;

/** Does each call with the class and with the model, and tells where they do not tell the same. */
final class Both {
    interface Call<R> {
        R get();
    }

    final Cellruntime own = new Cellruntime();
    final Model model = new Model();
    final StringBuilder log = new StringBuilder();
    int wrong;

    private static Object told(Call<?> call) {
        try {
            return call.get();
        } catch (IllegalArgumentException | IllegalStateException | IndexOutOfBoundsException e) {
            return e.getClass() == IllegalArgumentException.class || e.getClass() == IllegalStateException.class
                || e.getClass() == IndexOutOfBoundsException.class ? e.getClass().getSimpleName() : e.toString();
        }
    }

    void same(String call, Object got, Object want) {
        if (Objects.equals(got, want)) return;
        wrong++;
        if (wrong <= 3) System.out.println(call + " answered " + got + ", the model tells " + want + "\n  behind:\n" + log);
    }

    private int act(String call, Call<Integer> one, Call<Integer> other) {
        Object got = told(one);
        Object want = told(other);
        log.append("    ").append(call).append(" = ").append(want).append('\n');
        same(call, got, want);
        return want instanceof Integer i ? i : -9;
    }

    int type(int kind, boolean open, int bound, int base) {
        return act("type(" + kind + ", " + open + ", " + bound + ", " + base + ")", () -> own.type(kind, open, bound, base), () -> model.type(kind, open, bound, base));
    }

    int expr(int what, int of, int argument) {
        return act("expr(" + what + ", " + of + ", " + argument + ")", () -> own.expr(what, of, argument), () -> model.expr(what, of, argument));
    }

    int implement(int type, int x) {
        return act("implement(" + type + ", " + x + ")", () -> own.implement(type, x), () -> model.implement(type, x));
    }

    int field(int type, int x, boolean isStatic) {
        return act("field(" + type + ", " + x + ", " + isStatic + ")", () -> own.field(type, x, isStatic), () -> model.field(type, x, isStatic));
    }

    int method(int type, int name, int mode, int result) {
        return act("method(" + type + ", " + name + ", " + mode + ", " + result + ")", () -> own.method(type, name, mode, result), () -> model.method(type, name, mode, result));
    }

    int param(int m, int x) {
        return act("param(" + m + ", " + x + ")", () -> own.param(m, x), () -> model.param(m, x));
    }

    int local(int m, int x) {
        return act("local(" + m + ", " + x + ")", () -> own.local(m, x), () -> model.local(m, x));
    }

    int code(int m, int operation, int a, int b) {
        return act("code(" + m + ", " + operation + ", " + a + ", " + b + ")", () -> own.code(m, operation, a, b), () -> model.code(m, operation, a, b));
    }

    int change(int m, int place, int operation, int a, int b) {
        return act("change(" + m + ", " + place + ", " + operation + ", " + a + ", " + b + ")", () -> own.change(m, place, operation, a, b), () -> model.change(m, place, operation, a, b));
    }

    int cut(int m, int many) {
        return act("cut(" + m + ", " + many + ")", () -> own.cut(m, many), () -> model.cut(m, many));
    }

    int handler(int m, int kind, int from, int to, int at, int end) {
        return act("handler(" + m + ", " + kind + ", " + from + ", " + to + ", " + at + ", " + end + ")", () -> own.handler(m, kind, from, to, at, end), () -> model.handler(m, kind, from, to, at, end));
    }

    int handles(int m, int h, int with) {
        return act("handles(" + m + ", " + h + ", " + with + ")", () -> own.handles(m, h, with), () -> model.handles(m, h, with));
    }

    int unhandle(int m) {
        return act("unhandle(" + m + ")", () -> own.unhandle(m), () -> model.unhandle(m));
    }

    int clear() {
        return act("clear()", own::clear, model::clear);
    }

    // ---- what is told

    void compareTypes() {
        same("types()", own.types(), model.types.size());
        for (int t = 0; t < model.types.size(); t++) {
            Model.Ty type = model.types.get(t);
            int of = t;
            same("ofType(" + t + ", 0)", own.ofType(t, 0), type.kind);
            same("ofType(" + t + ", 1)", own.ofType(t, 1), type.open ? 1 : 0);
            same("ofType(" + t + ", 2)", own.ofType(t, 2), type.boundNo);
            same("ofType(" + t + ", 3)", own.ofType(t, 3), type.baseNo);
            same("ofType(" + t + ", 4)", own.ofType(t, 4), type.contracts.size());
            same("ofType(" + t + ", 5)", own.ofType(t, 5), (int) model.fields.stream().filter(f -> f.type() == of).count());
            same("ofType(" + t + ", 6)", own.ofType(t, 6), (int) model.methods.stream().filter(m -> m.type == of).count());
            same("ofType(" + t + ", 7)", own.ofType(t, 7), model.whole(t) ? 1 : 0);
        }
        same("exprs()", own.exprs(), model.xs.size());
        for (int k = 0; k < model.xs.size(); k++) {
            Model.X x = model.x(k);
            same("exprText(" + k + ")", own.exprText(k), x.toString());
            same("cellsOf(" + k + ")", own.cellsOf(k), x.hasT() ? -1 : model.cells(x));
            for (int t = -1; t < model.types.size(); t++) {
                boolean open = t >= 0 && model.types.get(t).open;
                Model.X bound = t < 0 ? null : model.types.get(t).bound;
                same("isGood(" + k + ", " + t + ")", own.isGood(k, t), model.good(x, open, bound));
                for (int n = 0; n < model.xs.size(); n++) {
                    Model.X y = model.x(n);
                    if (t <= 0) same("isA(" + k + ", " + n + ", " + t + ")", own.isA(k, n, t), model.isA(x, y));
                    same("keeps(" + k + ", " + n + ", " + t + ")", own.keeps(k, n, t), model.keeps(x, y, bound));
                }
            }
        }
    }

    void compareAnswers() {
        for (int c = 0; c < model.xs.size(); c++) {
            for (Model.Me m : model.methods) {
                for (int x = 0; x < model.xs.size(); x++) {
                    int of = c;
                    int with = x;
                    Model.X cx = model.x(c);
                    Model.X xx = model.x(x);
                    boolean isLet = (model.kind(cx) == 0 || model.kind(cx) == 1) && model.kind(xx) >= 0 && xx.type() == m.type;
                    Object[] answer = isLet ? model.answer(cx, m, xx) : null;
                    Object want = !isLet ? "IllegalArgumentException" : answer == null ? -1 : ((Model.Me) answer[0]).no;
                    same("answer(" + c + ", " + m.no + ", " + x + ")", told(() -> own.answer(of, m.no, with)), want);
                }
            }
        }
    }

    void compareMethods() {
        int right = 0;
        same("methods()", own.methods(), model.methods.size());
        for (Model.Me m : model.methods) if (compareMethod(m).kind == 0) right++;
        same("house(7)", own.house(7), right);
        same("isRight()", own.isRight(), model.allRight());
    }

    Model.Check compareMethod(Model.Me m) {
        Model.Check check = model.check(m);
        same("error(" + m.no + ")", own.error(m.no), check.kind);
        same("errorPlace(" + m.no + ")", own.errorPlace(m.no), check.place);
        for (int p = 0; p < m.code.size(); p++) same("state(" + m.no + ", " + p + ")", own.state(m.no, p), check.state(p));
        return check;
    }

    // ---- runs

    void compareRun(Model.Me m, int way, int a, int b, int c) {
        String call = "run(" + m.no + ", " + way + ", " + a + ", " + b + ", " + c + ")";
        int got = own.run(m.no, way, a, b, c);
        if (!model.entry(m) || !model.allRight()) {
            same(call, got, model.entry(m) ? -3 : -2);
            return;
        }
        Model.Run run = model.new Run(m, way == 1, a, b, c);
        run.step(600);
        same(call, got, run.end);
        same(call + " END", own.ofRun(0), run.end);
        same(call + " CODE", own.ofRun(1), run.code());
        same(call + " STEPS", own.ofRun(2), run.steps);
        same(call + " RESULT", own.ofRun(3), run.result);
        same(call + " BODIES", own.ofRun(4), way == 0 ? 0 : run.bodies.size());
        same(call + " OUT", own.out(), run.out.toString());
    }

    Model.Run walk(Model.Me m, int a, int b, int c) {
        log.append("    walk(").append(m.no).append(", ").append(a).append(", ").append(b).append(", ").append(c).append(")\n");
        same("walk(" + m.no + ")", own.walk(m.no, a, b, c), 0);
        return model.new Run(m, false, a, b, c);
    }

    void step(Model.Run run, int many) {
        log.append("    step(").append(many).append(")\n");
        same("step(" + many + ")", own.step(many), run.step(many));
    }

    void compareWalk(Model.Run run) {
        TreeMap<Integer, Model.Thing> reached = run.reached();
        same("ofWalk(0)", own.ofWalk(0), run.end == -1 ? 1 : 0);
        same("ofWalk(1)", own.ofWalk(1), run.end);
        same("ofWalk(2)", own.ofWalk(2), run.code());
        same("ofWalk(3)", own.ofWalk(3), run.steps);
        same("ofWalk(4)", own.ofWalk(4), run.result);
        same("ofWalk(5)", own.ofWalk(5), run.frames.size());
        same("ofWalk(6)", own.ofWalk(6), reached.size());
        same("ofWalk(7)", own.ofWalk(7), run.reachedCells());
        same("ofWalk(8)", own.ofWalk(8), run.pins.size());
        same("walkOut()", own.walkOut(), run.out.toString());
        for (int k = 0; k < run.frames.size(); k++) compareFrame(k, run, run.frames.get(k));
        int n = 0;
        for (Map.Entry<Integer, Model.Thing> e : reached.entrySet()) {
            same("reached(" + n + ")", own.reached(n), e.getKey());
            same("thing(" + e.getKey() + ")", own.thing(e.getKey()), run.text(e.getValue()));
            n++;
        }
        same("reached(" + n + ")", own.reached(n), -1);
        same("thing(" + (run.things + 1) + ")", own.thing(run.things + 1), "-");
    }

    private void compareFrame(int k, Model.Run run, Model.Frame f) {
        same("ofFrame(" + k + ", 0)", own.ofFrame(k, 0), f.m.no);
        same("ofFrame(" + k + ", 1)", own.ofFrame(k, 1), f.place);
        same("ofFrame(" + k + ", 2)", own.ofFrame(k, 2), f.stack.size());
        same("holder(" + k + ")", own.holder(k), f.holder.toString());
        for (int v = 0; v < f.parameters.length; v++) same("value(" + k + ", 0, " + v + ")", own.value(k, 0, v), run.text(f.parameters[v]));
        for (int v = 0; v < f.locals.length; v++) same("value(" + k + ", 1, " + v + ")", own.value(k, 1, v), run.text(f.locals[v]));
        same("value(" + k + ", 2, too many)", told(() -> own.value(k, 2, f.stack.size())), "IndexOutOfBoundsException");
        for (int v = 0; v < f.stack.size(); v++) same("value(" + k + ", 2, " + v + ")", own.value(k, 2, v), run.text(f.stack.get(v)));
    }

}
