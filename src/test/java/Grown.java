import java.util.ArrayList;
import java.util.List;
import java.util.Random;

/**
 * Code that is grown: a right METHOD of "nop" and HANDLERS, in which rows of "nop" become other instructions, any that
 * can stand there by what lies on the stack, as long as the METHOD stays right. Other than in {@link Programs} no one
 * thought of what the code is for, so instructions stand together as they may.
 */
final class Grown {
    private static final int NOP = 0, NUM = 1, NULL = 2, ARG = 3, LOC = 5, DUP = 19, POP = 20, MAKE = 21, RET = 25, ROW = 37, THROW = 47, LEAVE = 48, ENDFINALLY = 49,
        ENDFILTER = 50, CODEOF = 56;
    private static final int OPERATIONS = 58;
    private static final int MOST_LINES = 40;

    private final Random random;
    private final Both both;
    private final Model model;
    // How often an operation was taken, in all programs: those that were taken less are tried more.
    private static final int[] TAKEN = new int[OPERATIONS];
    private List<int[]> lines;
    private List<int[]> handlers;

    Grown(Random random, Both both) {
        this.random = random;
        this.both = both;
        this.model = both.model;
    }

    void grow(int rounds) {
        for (Model.Me m : model.methods) if (hasCode(m)) begin(m);
        for (int r = 0; r < rounds && both.wrong == 0; r++) {
            for (Model.Me m : model.methods) if (hasCode(m) && model.check(m).kind == 0) growRow(m);
        }
    }

    private boolean hasCode(Model.Me m) {
        return model.types.get(m.type).kind <= 1;
    }

    private int any(int n) {
        return n <= 0 ? 0 : random.nextInt(n);
    }

    private boolean chance(int percent) {
        return random.nextInt(100) < percent;
    }

    // ---- what it begins with: HANDLERS and "nop" between

    private void begin(Model.Me m) {
        do {
            lines = new ArrayList<>();
            handlers = new ArrayList<>();
            line(NOP, any(6));
            layBlock(3, 30);
            line(NOP, any(4));
            layEnd(m.result);
        } while (lines.size() > MOST_LINES);
        for (int[] l : lines) both.code(m.no, l[0], l[1], l[2]);
        for (int[] h : handlers) {
            int n = both.handler(m.no, h[0], h[1], h[2], h[3], h[4]);
            if (n >= 0 && h[0] <= 1) both.handles(m.no, n, h[0] == 1 ? h[5] : anyFault(m));
        }
        both.compareMethod(m);
    }

    private void line(int operation, int many) {
        for (int k = 0; k < many; k++) lines.add(new int[] {operation, 0, 0});
    }

    private void layEnd(Model.X result) {
        if (Model.X.INT.equals(result)) lines.add(new int[] {NUM, any(50), 0});
        else if (result != null) line(NULL, 1);
        line(result == null || result.equals(Model.X.INT) || model.isReference(result) ? RET : THROW, 1);
    }

    private void layBlock(int deep, int room) {
        int begin = lines.size();
        for (int n = 1 + any(3); n > 0; n--) {
            int left = room - (lines.size() - begin);
            if (deep > 0 && left > 10 && handlers.size() < 4 && chance(60)) layTry(deep, left - 1);
            else if (left > 2) line(NOP, 1 + any(Math.min(7, left)));
        }
        if (lines.size() == begin) line(NOP, 1);
    }

    private void layTry(int deep, int room) {
        List<int[]> leaves = new ArrayList<>();
        int kind = any(4);
        int from = lines.size();
        layBlock(deep - 1, room / 2);
        layWayOut(leaves);
        int to = lines.size();
        if (kind == 1) layTest(deep, room);
        int at = lines.size();
        if (kind <= 1) {
            line(NOP, any(4));
            if (deep > 1 && chance(30)) {
                line(POP, 1);
                layBlock(deep - 1, room / 4);
            }
            layWayOut(leaves);
        } else {
            layBlock(deep - 1, room / 4);
            line(ENDFINALLY, 1);
        }
        // The HANDLERS in it may have taken all there are; then it is no HANDLER, and its BLOCK is never come to.
        if (handlers.size() < 4) handlers.add(new int[] {kind, from, to, at, lines.size(), to});
        for (int[] l : leaves) l[1] = lines.size();
        line(NOP, 1);
    }

    private void layWayOut(List<int[]> leaves) {
        if (chance(15)) {
            lines.add(new int[] {MAKE, 2, 0});
            line(THROW, 1);
            return;
        }
        int[] leave = {LEAVE, 0, 0};
        lines.add(leave);
        leaves.add(leave);
    }

    private void layTest(int deep, int room) {
        line(NOP, any(4));
        if (deep > 1 && chance(30)) {
            line(POP, 1);
            layBlock(deep - 1, room / 4);
            lines.add(new int[] {NUM, any(2), 0});
        } else {
            line(CODEOF, 1);
        }
        line(NOP, any(3));
        line(ENDFILTER, 1);
    }

    private int anyFault(Model.Me m) {
        int found = 2;
        for (int x = 0; x < model.xs.size(); x++) {
            if (model.goodIn(model.x(x), m.type) && model.isA(model.x(x), Model.X.FAULT) && chance(40)) found = x;
        }
        return found;
    }

    // ---- how it grows

    /** Some "nop" that stand together become others; if the METHOD is not right then, they stay as they were. */
    private void growRow(Model.Me m) {
        int n = m.code.size();
        int p = any(n);
        while (p < n && (m.code.get(p)[0] != NOP || depth(m, p) < 0)) p++;
        int end = p;
        while (end < n && m.code.get(end)[0] == NOP && end - p < 8) end++;
        if (p == n) return;
        end = p + 1 + any(end - p);
        List<int[]> before = new ArrayList<>(m.code);
        int base = depth(m, p);
        for (int k = p; k < end && depth(m, k) >= 0; k++) m.code.set(k, next(m, k, base + end - k - 1, base, before));
        boolean isRight = model.check(m).kind == 0;
        List<int[]> grown = new ArrayList<>(m.code);
        for (int k = 0; k < n; k++) m.code.set(k, before.get(k));
        for (int k = p; isRight && k < end; k++) {
            int[] l = grown.get(k);
            if (l == before.get(k)) continue;
            TAKEN[l[0]]++;
            both.change(m.no, k, l[0], l[1], l[2]);
        }
        both.compareMethod(m);
    }

    /** How many entries lie on the stack there; -1 without a STATE. */
    private int depth(Model.Me m, int p) {
        return model.check(m).depth(p);
    }

    /** One that can stand there, and leaves at most so many entries; otherwise one that takes away what is too much. */
    private int[] next(Model.Me m, int p, int most, int base, List<int[]> before) {
        for (int n = 0; n < 120; n++) {
            int[] l = anyLine(m, p);
            m.code.set(p, l);
            Model.Check check = model.check(m);
            if (chance(2)) askAside(m, before);
            if (check.kind != 0 && check.place <= p) continue;
            if (p + 1 >= m.code.size() || check.depth(p + 1) <= most) return l;
        }
        return new int[] {depth(m, p) > base ? POP : NOP, 0, 0};
    }

    /** Both have to tell the same also of what is not right. */
    private void askAside(Model.Me m, List<int[]> before) {
        for (int k = 0; k < before.size(); k++) changeOwn(m.no, k, before.get(k), m.code.get(k));
        both.compareMethod(m);
        for (int k = 0; k < before.size(); k++) changeOwn(m.no, k, m.code.get(k), before.get(k));
    }

    private void changeOwn(int m, int p, int[] from, int[] to) {
        if (from != to) both.own.change(m, p, to[0], to[1], to[2]);
    }

    private int[] anyLine(Model.Me m, int p) {
        int operation = anyOperation();
        int a = any(model.xs.size());
        int b = 0;
        switch (operation) {
            case 1: a = chance(80) ? any(6) - 1 : any(20001) - 10000; break;
            case 3: case 4: case 7: a = any(model.parameters(m).size()); break;
            case 5: case 6: case 8: a = any(m.locals.size()); break;
            // Most of the time on, so that not each run goes round and round.
            case 16: case 17: case 18: case 48: a = chance(90) ? p + 1 + any(m.code.size() - p - 1) : any(m.code.size()); break;
            case 22: case 23: case 24: case 45:
                a = any(model.methods.size());
                b = anyOf(operation == 45 ? Model.NONE : model.methods.get(a).type, m.type);
                break;
            case 26: case 27: case 28: case 29: case 30: case 31:
                a = any(model.fields.size());
                b = anyOf(model.fields.isEmpty() ? Model.NONE : model.fields.get(a).type(), m.type);
                break;
            default: break;
        }
        return new int[] {operation, a, b};
    }

    private int anyOperation() {
        double sum = 0;
        for (int k = 1; k < OPERATIONS; k++) sum += weight(k);
        double r = random.nextDouble() * sum;
        for (int k = 1; k < OPERATIONS; k++) {
            r -= weight(k);
            if (r < 0) return k;
        }
        return DUP;
    }

    /** Those that leave something for the next ones come more often. */
    private double weight(int operation) {
        boolean leaves = operation == NUM || operation == ARG || operation == LOC || operation == MAKE || operation == ROW;
        return (leaves ? 8.0 : 1.0) / (3 + TAKEN[operation]);
    }

    /** An EXPRESSION of that TYPE that is GOOD in the other one; any, if there is none. */
    private int anyOf(int type, int in) {
        List<Integer> all = new ArrayList<>();
        for (int x = 0; x < model.xs.size(); x++) {
            Model.X e = model.x(x);
            if ((e.what() == 4 || e.what() == 5) && e.type() == type && model.goodIn(e, in)) all.add(x);
        }
        return all.isEmpty() || chance(5) ? any(model.xs.size()) : all.get(any(all.size()));
    }
}
