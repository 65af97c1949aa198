import java.util.ArrayList;
import java.util.List;
import java.util.Random;

/**
 * Makes random types and random code of the right types, with jumps and HANDLERS, so that most of what is made can be
 * run. It only proposes; what comes of it is told by the two that do it.
 */
final class Programs {
    private final Random random;
    private final Both both;
    private final Model model;

    Programs(Random random, Both both) {
        this.random = random;
        this.both = both;
        this.model = both.model;
    }

    private int any(int n) {
        return n <= 0 ? 0 : random.nextInt(n);
    }

    private boolean chance(int percent) {
        return random.nextInt(100) < percent;
    }

    private int anyExpr() {
        return any(model.xs.size());
    }

    // ---- types

    void makeTypes() {
        int types = 2 + any(8);
        for (int k = 0; k < types; k++) {
            makeType();
            for (int n = any(4); n > 0; n--) both.expr(1 + any(3) % 3, chance(60) ? any(model.types.size()) : anyExpr(), anyExpr());
            if (chance(20)) both.expr(3, anyExpr(), 0);
        }
        for (int n = 6 + any(14); n > 0; n--) both.field(any(model.types.size()), anyExpr(), chance(30));
        for (int n = any(6); n > 0; n--) both.implement(any(model.types.size()), anyExpr());
        for (int n = 5 + any(12); n > 0; n--) makeMethod();
        answerAll();
        for (int n = any(3); n > 0; n--) bindable();
        makeEntry();
        makeEntry();
        for (Model.Me m : model.methods) for (int n = any(5); n > 0; n--) both.local(m.no, anyExpr());
    }

    private void makeType() {
        int kind = any(4);
        boolean open = kind != 1 && chance(35);
        int bound = Model.NONE;
        if (open && chance(40)) for (int x = 0; x < model.xs.size(); x++) if (model.kind(model.x(x)) == 2 && chance(50)) bound = x;
        int base = Model.NONE;
        if (kind == 0) {
            base = chance(40) ? 1 : chance(25) ? 2 : anyExpr();
            if (base != 1 && base != 2 && model.kind(model.x(base)) != 0) base = 1;
        }
        int made = both.type(kind, open, bound, base);
        if (made < 0) return;
        if (open) {
            both.expr(1, made, 3);
            for (int n = any(3); n > 0; n--) both.expr(1, made, anyExpr());
        } else {
            both.expr(0, made, 0);
        }
        if (kind == 3) {
            int result = chance(60) ? chance(60) ? 0 : anyExpr() : Model.NONE;
            int m = both.method(made, any(3), 2, result);
            for (int n = any(3); m >= 0 && n > 0; n--) both.param(m, chance(60) ? 0 : anyExpr());
        }
    }

    private void makeMethod() {
        int type = any(model.types.size());
        int kind = model.types.get(type).kind;
        if (kind == 3) return;
        int mode = kind == 2 ? 2 : any(3);
        int m = both.method(type, any(3), mode, chance(70) ? chance(50) ? 0 : anyExpr() : Model.NONE);
        if (m < 0) return;
        for (int n = any(3); n > 0; n--) both.param(m, chance(50) ? 0 : anyExpr());
    }

    private void makeEntry() {
        for (int t = 0; t < model.types.size(); t++) {
            Model.Ty type = model.types.get(t);
            if (type.kind > 1 || type.open || chance(40)) continue;
            int m = both.method(t, any(3), 0, chance(60) ? 0 : Model.NONE);
            for (int n = any(4); m >= 0 && n > 0; n--) both.param(m, 0);
            return;
        }
        if (both.type(0, false, Model.NONE, 1) >= 0) makeEntry();
    }

    /** What CONTRACTS ask for and is not there, as far as it can be told by numbers. */
    private void answerAll() {
        for (int t = 0; t < model.types.size(); t++) {
            if (model.types.get(t).kind > 1) continue;
            Model.X self = model.self(t);
            for (Model.X b : model.bases(self)) {
                if (b.what() < 4 || b.what() > 5) continue;
                for (Model.X c : model.types.get(b.type()).contracts) {
                    Model.X i = c.with(b.argument());
                    for (int m = 0; m < model.methods.size(); m++) {
                        Model.Me asked = model.methods.get(m);
                        if (asked.type == i.type() && model.answer(self, asked, i) == null) answer(t, asked, i);
                    }
                }
            }
        }
    }

    private void answer(int t, Model.Me asked, Model.X i) {
        List<Model.X> signature = model.signature(asked, i);
        Model.X result = signature.get(signature.size() - 1);
        for (Model.X x : signature) if (x != null && numberOf(x) == Model.NONE) return;
        int m = both.method(t, asked.name, 2, result == null ? Model.NONE : numberOf(result));
        for (int k = 0; m >= 0 && k + 1 < signature.size(); k++) both.param(m, numberOf(signature.get(k)));
    }

    /** A METHOD that is signed as that of a DELEGATE, so that it can be bound. */
    private void bindable() {
        Model.X x = model.x(anyExpr());
        for (int n = 0; n < 20 && (model.kind(x) != 3 || x.hasT()); n++) x = model.x(anyExpr());
        int t = any(model.types.size());
        if (model.kind(x) != 3 || x.hasT() || model.types.get(t).kind > 1) return;
        Model.Me d = null;
        for (Model.Me m : model.methods) if (m.type == x.type()) d = m;
        if (d == null) return;
        int mode = model.types.get(t).open || chance(50) ? 1 + any(2) : 0;
        List<Model.X> signature = model.signature(d, x);
        Model.X result = signature.get(signature.size() - 1);
        for (Model.X y : signature) if (y != null && numberOf(y) == Model.NONE) return;
        int m = both.method(t, any(10), mode, result == null ? Model.NONE : numberOf(result));
        for (int k = 0; m >= 0 && k + 1 < signature.size(); k++) both.param(m, numberOf(signature.get(k)));
    }

    private int numberOf(Model.X x) {
        return model.xs.indexOf(x);
    }

    // ---- code of one METHOD

    private Model.Me me;
    private List<int[]> lines;
    private List<int[]> handlers;
    private List<Integer> labels;
    private List<Model.X> parameters;
    private int budget;

    void writeAll() {
        for (Model.Me m : model.methods) if (model.types.get(m.type).kind <= 1) write(m);
    }

    private void write(Model.Me m) {
        me = m;
        lines = new ArrayList<>();
        handlers = new ArrayList<>();
        labels = new ArrayList<>();
        parameters = model.parameters(m);
        budget = 34;
        for (int k = 0; k < me.locals.size(); k++) if (!model.isValue(me.locals.get(k)) && chance(70)) setLocal(k);
        for (int n = 1 + any(7); n > 0; n--) if (chance(30) || !attempted()) statement(2);
        budget = 40;
        finish();
        for (int[] h : handlers) {
            int n = both.handler(m.no, h[0], at(h[1]), at(h[2]), at(h[3]), at(h[4]));
            if (h[0] <= 1 && n >= 0) both.handles(m.no, n, h[0] == 0 ? h[5] : at(h[5]));
        }
        for (int[] l : lines) both.code(m.no, l[0], isJump(l[0]) ? at(l[1]) : l[1], l[2]);
    }

    private static boolean isJump(int operation) {
        return operation >= 16 && operation <= 18 || operation == 48;
    }

    private int at(int label) {
        return labels.get(label);
    }

    private void finish() {
        if (me.result == null) {
            line(25, 0, 0);
            return;
        }
        int before = lines.size();
        if (value(me.result, 1) && lines.size() < 40) {
            line(25, 0, 0);
            return;
        }
        back(before, handlers.size());
        if (chance(50) && lines.size() < 39) {
            line(21, 2, 0);
            line(47, 0, 0);
        } else {
            line(2, 0, 0);
            line(47, 0, 0);
        }
    }

    private boolean line(int operation, int a, int b) {
        lines.add(new int[] {operation, a, b});
        return lines.size() <= budget;
    }

    private void back(int size, int hs) {
        while (lines.size() > size) lines.remove(lines.size() - 1);
        while (handlers.size() > hs) handlers.remove(handlers.size() - 1);
    }

    private int label() {
        labels.add(0);
        return labels.size() - 1;
    }

    private void here(int label) {
        labels.set(label, lines.size());
    }

    private boolean isFit(Model.X x) {
        return numberOf(x) >= 0 && model.goodIn(x, me.type);
    }

    private Model.X anyFit() {
        for (int n = 0; n < 10; n++) {
            Model.X x = model.xs.get(anyExpr());
            if (isFit(x) && !x.isPlace()) return x;
        }
        return Model.X.INT;
    }

    /** One that begins and ends with an empty stack. */
    private boolean statement(int deep) {
        int before = lines.size();
        int hs = handlers.size();
        boolean is = tryStatement(deep);
        if (is && lines.size() <= budget) return true;
        back(before, hs);
        return false;
    }

    private boolean tryStatement(int deep) {
        if (chance(6)) return held(deep);
        if (chance(5)) return merged();
        switch (any(deep > 0 ? 22 : 15)) {
            case 0: case 1: case 2: return value(Model.X.INT, 2) && line(51, 0, 0);
            case 3: case 4: return me.locals.isEmpty() || setLocal();
            case 5: return setParameter();
            case 6: return setField(false);
            case 7: return setField(true);
            case 8: return put();
            case 9: return store();
            case 10: return value(anyFit(), 2) && line(20, 0, 0);
            case 11: return callVoid();
            case 12: return simple();
            case 13: return value(Model.X.FAULT, 1) && value(Model.X.INT, 1) && line(57, 0, 0);
            case 14: return chance(25) && value(Model.X.FAULT, 1) && line(47, 0, 0);
            case 15: case 16: return branch(deep);
            case 17: return loop(deep);
            default: return attempt(deep);
        }
    }

    /** Something else is done while a value lies on the stack. */
    private boolean held(int deep) {
        return value(anyFit(), 1) && tryStatement(0) && line(20, 0, 0);
    }

    /** One of two values, most of the time such as go together. */
    private boolean merged() {
        int otherwise = label();
        int end = label();
        Model.X x = anyFit();
        Model.X y = chance(70) ? x : anyFit();
        if (!value(Model.X.INT, 1)) return false;
        line(18, otherwise, 0);
        if (!value(x, 1)) return false;
        line(16, end, 0);
        here(otherwise);
        if (model.isReference(x) && chance(25) ? !line(2, 0, 0) : !value(y, 1)) return false;
        here(end);
        return line(20, 0, 0);
    }

    private void setLocal(int k) {
        int before = lines.size();
        if (!value(me.locals.get(k), 2) || !line(6, k, 0)) back(before, handlers.size());
    }

    private boolean setLocal() {
        int k = any(me.locals.size());
        return value(me.locals.get(k), 2) && line(6, k, 0);
    }

    private boolean setParameter() {
        if (parameters.isEmpty()) return false;
        int k = any(parameters.size());
        return value(parameters.get(k), 2) && line(4, k, 0);
    }

    /** The expression by which a FIELD or METHOD of the TYPE can be told here, or null. */
    private Model.X anyOf(int type) {
        List<Model.X> all = new ArrayList<>();
        for (Model.X x : model.xs) if ((x.what() == 4 || x.what() == 5) && x.type() == type && isFit(x)) all.add(x);
        return all.isEmpty() ? null : all.get(any(all.size()));
    }

    private boolean setField(boolean isStatic) {
        if (model.fields.isEmpty()) return false;
        Model.Fd f = model.fields.get(any(model.fields.size()));
        Model.X x = anyOf(f.type());
        if (x == null || f.isStatic() != isStatic) return false;
        Model.X v = f.x().with(x.argument());
        int no = model.fields.indexOf(f);
        if (isStatic) return value(v, 2) && line(30, no, numberOf(x));
        Model.X base = model.kind(x) == 1 ? x.place() : x;
        return value(base, 1) && value(v, 2) && line(27, no, numberOf(x));
    }

    private boolean put() {
        if (chance(40)) return putInOther();
        Model.X x = anyFit();
        return value(x.row(), 1) && index() && value(x, 1) && line(40, numberOf(x), 0);
    }

    /** Into a ROW that is told as one of x, but may be of something that IS A x. */
    private boolean putInOther() {
        for (int n = 0; n < 12; n++) {
            Model.X x = anyFit();
            Model.X y = anyFit();
            if (!model.isReference(x) || !isFit(x.row()) || !model.isA(y, x)) continue;
            line(1, 2 + any(4), 0);
            line(37, numberOf(y), 0);
            line(35, numberOf(x.row()), 0);
            if (!index()) return false;
            if (chance(30)) return line(41, numberOf(x), 0) && line(42, numberOf(x), 0) && line(20, 0, 0);
            return value(x, 1) && line(40, numberOf(x), 0);
        }
        return false;
    }

    private boolean store() {
        Model.X x = anyFit();
        if (!value(x.place(), 2)) return false;
        if (chance(30)) return line(44, numberOf(x), 0);
        return value(x, 1) && line(43, numberOf(x), 0);
    }

    private boolean callVoid() {
        List<Model.Me> all = new ArrayList<>();
        for (Model.Me m : model.methods) if (m.result == null) all.add(m);
        return !all.isEmpty() && call(all.get(any(all.size())), 2);
    }

    private boolean simple() {
        switch (any(4)) {
            case 0: return line(0, 0, 0);
            case 1: return line(54, 0, 0);
            case 2: return line(55, 0, 0);
            default: return value(Model.X.OBJECT, 2) && line(53, 0, 0);
        }
    }

    private boolean branch(int deep) {
        int otherwise = label();
        int end = label();
        if (!value(chance(60) ? Model.X.INT : Model.X.OBJECT, 1)) return false;
        line(chance(50) ? 17 : 18, otherwise, 0);
        statement(deep - 1);
        boolean hasMore = chance(50);
        if (hasMore) line(16, end, 0);
        here(otherwise);
        if (hasMore) statement(deep - 1);
        here(end);
        return line(0, 0, 0);
    }

    private boolean loop(int deep) {
        int k = -1;
        for (int n = 0; n < me.locals.size(); n++) if (me.locals.get(n).equals(Model.X.INT)) k = n;
        if (k < 0) return false;
        int begin = label();
        int end = label();
        here(begin);
        line(5, k, 0);
        line(1, chance(10) ? 9999 : any(5), 0);
        line(15, 0, 0);
        line(18, end, 0);
        statement(deep - 1);
        line(5, k, 0);
        line(1, 1, 0);
        line(9, 0, 0);
        line(6, k, 0);
        line(16, begin, 0);
        here(end);
        return line(0, 0, 0);
    }

    private boolean attempt(int deep) {
        if (handlers.size() >= 4) return false;
        int from = label();
        int to = label();
        int test = label();
        int at = label();
        int end = label();
        int done = label();
        int kind = any(4);
        here(from);
        statement(deep - 1);
        if (chance(50)) statement(deep - 1);
        if (chance(30)) {
            if (!value(Model.X.FAULT, 0)) return false;
            line(47, 0, 0);
        } else {
            line(48, done, 0);
        }
        here(to);
        here(test);
        int with = 2;
        if (kind == 1) writeTest(deep);
        here(at);
        if (kind <= 1) {
            if (kind == 0) with = anyFault();
            endCaught(deep, done);
        } else {
            statement(deep - 1);
            line(49, 0, 0);
        }
        here(end);
        if (handlers.size() >= 4) return false;
        handlers.add(new int[] {kind, from, to, at, end, kind == 1 ? test : with});
        if (kind <= 1 && chance(25) && handlers.size() < 4) {
            int at2 = label();
            int end2 = label();
            here(at2);
            endCaught(0, done);
            here(end2);
            handlers.add(new int[] {0, from, to, at2, end2, anyFault()});
        }
        here(done);
        return line(0, 0, 0);
    }

    private boolean attempted() {
        int before = lines.size();
        int hs = handlers.size();
        if (attempt(2) && lines.size() <= budget) return true;
        back(before, hs);
        return false;
    }

    private int anyFault() {
        int found = 2;
        for (int x = 0; x < model.xs.size(); x++) if (isFit(model.x(x)) && model.isA(model.x(x), Model.X.FAULT) && chance(40)) found = x;
        return found;
    }

    private void writeTest(int deep) {
        if (chance(50)) {
            line(56, 0, 0);
            line(1, any(9), 0);
            line(chance(50) ? 14 : 15, 0, 0);
        } else {
            line(20, 0, 0);
            statement(deep - 1);
            if (!value(Model.X.INT, 1)) line(1, 1, 0);
        }
        line(50, 0, 0);
    }

    private void endCaught(int deep, int done) {
        switch (any(4)) {
            case 0: line(20, 0, 0); statement(deep - 1); line(48, done, 0); break;
            case 1: line(56, 0, 0); line(51, 0, 0); line(48, done, 0); break;
            case 2: line(chance(30) ? 47 : 48, done, 0); break;
            default: line(19, 0, 0); line(1, any(20), 0); line(57, 0, 0); line(48, done, 0); break;
        }
    }

    // ---- values

    /** Writes code that leaves one value that goes into x; false, if none was found. */
    private boolean value(Model.X x, int deep) {
        if (lines.size() > budget) return false;
        boolean wantsOne = !chance(5);
        for (int n = 0; n < 9; n++) {
            int before = lines.size();
            if (tryValue(x, deep) && lines.size() <= budget && !(wantsOne && isNull(before))) return true;
            back(before, handlers.size());
        }
        int before = lines.size();
        return slot(x) || reference(x, 0) && !isNull(before) || last(x);
    }

    /** Whether what was written from there on is just "null". */
    private boolean isNull(int from) {
        return lines.size() == from + 1 && lines.get(from)[0] == 2;
    }

    private boolean last(Model.X x) {
        if (x.equals(Model.X.INT)) return line(1, any(12) - 2, 0);
        return model.isReference(x) && line(2, 0, 0);
    }

    private boolean index() {
        return chance(10) ? value(Model.X.INT, 0) : line(1, any(3), 0);
    }

    /** Most of the time a BOX of just that VALUE. */
    private boolean boxed(Model.X x, int deep) {
        if (model.isReference(x) || chance(30)) return value(Model.X.OBJECT, deep);
        return value(x, deep) && line(32, numberOf(x), 0);
    }

    private boolean goesInto(Model.X x, Model.X y) {
        return x.equals(y) || model.isA(x, y);
    }

    private boolean slot(Model.X x) {
        List<int[]> all = new ArrayList<>();
        for (int k = 0; k < parameters.size(); k++) if (goesInto(parameters.get(k), x)) all.add(new int[] {3, k});
        for (int k = 0; k < me.locals.size(); k++) if (goesInto(me.locals.get(k), x)) all.add(new int[] {5, k});
        if (x.isPlace()) {
            for (int k = 0; k < parameters.size(); k++) if (parameters.get(k).place().equals(x)) all.add(new int[] {7, k});
            for (int k = 0; k < me.locals.size(); k++) if (me.locals.get(k).place().equals(x)) all.add(new int[] {8, k});
        }
        if (all.isEmpty()) return false;
        int[] one = all.get(any(all.size()));
        return line(one[0], one[1], 0);
    }

    private boolean tryValue(Model.X x, int deep) {
        if (deep <= 0) return chance(70) && slot(x) || model.isReference(x) && chance(80) && reference(x, 0) || last(x);
        switch (any(12)) {
            case 0: case 1: case 2: return slot(x);
            case 3: return field(x, deep);
            case 4: return callFor(x, deep);
            case 5: return !x.isPlace() && isFit(x) && value(x.row(), deep - 1) && index() && line(39, numberOf(x), 0);
            case 6: return !x.isPlace() && isFit(x) && chance(50) && boxed(x, deep - 1) && line(34, numberOf(x), 0);
            case 7: return !x.isPlace() && isFit(x) && value(x.place(), deep - 1) && line(42, numberOf(x), 0);
            case 8: return invokeFor(x, deep);
            default: break;
        }
        if (x.equals(Model.X.INT)) return integer(deep);
        if (x.isPlace()) return place(x, deep);
        return model.isReference(x) && reference(x, deep);
    }

    private boolean integer(int deep) {
        switch (any(8)) {
            case 0: case 1: return value(Model.X.INT, deep - 1) && value(Model.X.INT, deep - 1) && line(9 + any(5), 0, 0);
            case 2: return value(Model.X.INT, deep - 1) && value(Model.X.INT, deep - 1) && line(14 + any(2), 0, 0);
            case 3: return value(anyFit().row(), deep - 1) && lines.get(lines.size() - 1)[0] != 1 && line(38, 0, 0);
            case 4: return value(Model.X.FAULT, deep - 1) && line(56, 0, 0);
            case 5: return line(52, 0, 0);
            case 6: return value(Model.X.OBJECT, deep - 1) && value(Model.X.OBJECT, deep - 1) && line(14, 0, 0);
            default: return line(1, any(30) - 5, 0);
        }
    }

    private boolean reference(Model.X x, int deep) {
        if (!model.isReference(x)) return false;
        switch (deep <= 0 ? 0 : any(7)) {
            case 0: case 1: case 2: {
                if (x.isRow()) {
                    Model.X y = x.of();
                    for (int n = 0; n < 6; n++) {
                        Model.X z = anyFit();
                        if (goesInto(z.row(), x)) y = z;
                    }
                    return isFit(y) && line(1, chance(4) ? 13 : 2 + any(4), 0) && line(37, numberOf(y), 0);
                }
                for (int n = 0; n < 8; n++) {
                    Model.X y = n == 0 ? x : anyFit();
                    boolean canBe = y.equals(Model.X.OBJECT) || y.equals(Model.X.FAULT) || model.kind(y) == 0;
                    if (canBe && isFit(y) && goesInto(y, x)) return line(21, numberOf(y), 0);
                }
                return false;
            }
            case 3: {
                Model.X y = anyFit();
                return x.equals(Model.X.OBJECT) && value(y, deep - 1) && line(32, numberOf(y), 0);
            }
            case 4: return isFit(x) && value(Model.X.OBJECT, deep - 1) && line(chance(60) ? 35 : 36, numberOf(x), 0);
            case 5: return bind(x, deep);
            default: return line(2, 0, 0);
        }
    }

    private boolean bind(Model.X x, int deep) {
        if (model.kind(x) != 3 || !isFit(x)) return false;
        for (int n = 0; n < 12; n++) {
            Model.Me m = model.methods.get(any(model.methods.size()));
            Model.Ty t = model.types.get(m.type);
            Model.Me d = null;
            for (Model.Me k : model.methods) if (k.type == x.type()) d = k;
            if (d == null || t.kind > 1) return false;
            if (m.mode == 0) {
                if (!t.open && model.signature(m, model.self(m.type)).equals(model.signature(d, x))) return line(45, m.no, numberOf(x));
                continue;
            }
            Model.X of = anyOf(m.type);
            if (t.kind != 0 || of == null || !model.signature(m, of).equals(model.signature(d, x))) continue;
            int before = lines.size();
            if (value(of, deep - 1) && lines.get(lines.size() - 1)[0] != 2) return line(45, m.no, numberOf(x));
            back(before, handlers.size());
        }
        return false;
    }

    private boolean place(Model.X p, int deep) {
        Model.X x = p.of();
        switch (any(4)) {
            case 0: return isFit(x) && model.isValue(x) && boxed(x, deep - 1) && line(33, numberOf(x), 0);
            case 1: return isFit(x) && value(x.row(), deep - 1) && index() && line(41, numberOf(x), 0);
            default: break;
        }
        for (int n = 0; n < 10 && !model.fields.isEmpty(); n++) {
            Model.Fd f = model.fields.get(any(model.fields.size()));
            Model.X of = anyOf(f.type());
            if (of == null || !f.x().with(of.argument()).equals(x)) continue;
            int no = model.fields.indexOf(f);
            if (f.isStatic()) return line(31, no, numberOf(of));
            return value(model.kind(of) == 1 ? of.place() : of, deep - 1) && line(28, no, numberOf(of));
        }
        return false;
    }

    private boolean field(Model.X x, int deep) {
        for (int n = 0; n < 10 && !model.fields.isEmpty(); n++) {
            Model.Fd f = model.fields.get(any(model.fields.size()));
            Model.X of = anyOf(f.type());
            if (of == null || !goesInto(f.x().with(of.argument()), x)) continue;
            int no = model.fields.indexOf(f);
            if (f.isStatic()) return line(29, no, numberOf(of));
            boolean isPlace = model.kind(of) == 1 && chance(60);
            return value(isPlace ? of.place() : of, deep - 1) && line(26, no, numberOf(of));
        }
        return false;
    }

    private boolean callFor(Model.X x, int deep) {
        for (int n = 0; n < 10; n++) {
            Model.Me m = model.methods.get(any(model.methods.size()));
            Model.X of = anyOf(m.type);
            if (of == null || m.result == null || !goesInto(m.result.with(of.argument()), x)) continue;
            return call(m, of, deep - 1);
        }
        return false;
    }

    private boolean call(Model.Me m, int deep) {
        Model.X of = anyOf(m.type);
        return of != null && call(m, of, deep - 1);
    }

    private boolean call(Model.Me m, Model.X of, int deep) {
        int kind = model.types.get(m.type).kind;
        if (kind == 3) return false;
        int operation = kind == 2 ? 23 : kind == 1 || m.mode == 0 ? 22 : 22 + any(2);
        if (m.mode != 0) {
            if (kind == 2 && chance(50)) {
                operation = 24;
                Model.X y = anyFit();
                Model.X bound = model.types.get(me.type).bound;
                if (!model.keeps(y, of, bound) && !model.isA(y, of)) y = of;
                if (!value(y.place(), deep)) return false;
            } else if (!value(kind == 1 ? of.place() : of, deep)) {
                return false;
            }
        }
        for (Model.X g : m.given) if (!value(g.with(of.argument()), deep)) return false;
        return line(operation, m.no, numberOf(of));
    }

    private boolean invokeFor(Model.X x, int deep) {
        for (Model.Me d : model.methods) {
            if (model.types.get(d.type).kind != 3 || d.result == null || chance(30)) continue;
            Model.X of = anyOf(d.type);
            if (of == null || !goesInto(d.result.with(of.argument()), x)) continue;
            if (!value(of, deep)) return false;
            for (Model.X g : d.given) if (!value(g.with(of.argument()), deep - 1)) return false;
            return line(46, numberOf(of), 0);
        }
        return false;
    }
}
