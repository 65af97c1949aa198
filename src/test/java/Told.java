/** All that an object tells, as one text: if a call changes nothing, this is the same ahead of it and behind it. */
final class Told {
    private final Cellruntime c;
    private final StringBuilder text = new StringBuilder();

    private Told(Cellruntime c) {
        this.c = c;
    }

    static String all(Cellruntime c) {
        Told t = new Told(c);
        t.types();
        t.exprs();
        t.methods();
        t.runs();
        if (Due.hasWalk(c)) t.walk();
        t.add(c.digest());
        return t.text.toString();
    }

    /** What is made alone: without runs and WALKS. */
    static String made(Cellruntime c) {
        Told t = new Told(c);
        t.types();
        t.exprs();
        t.methods();
        return t.text.toString();
    }

    private void add(Object o) {
        text.append(o).append(' ');
    }

    private void types() {
        int fields = 0;
        for (int t = 0; t < c.types(); t++) {
            for (int k = 0; k <= 7; k++) add(c.ofType(t, k));
            fields += c.ofType(t, 5);
        }
        for (int f = 0; f < fields; f++) for (int k = 0; k <= 2; k++) add(c.ofField(f, k));
    }

    private void exprs() {
        for (int x = 0; x < c.exprs(); x++) {
            add(c.exprText(x));
            add(c.cellsOf(x));
            for (int t = -1; t < c.types(); t++) add(c.isGood(x, t));
            for (int y = 0; y < c.exprs(); y++) {
                add(c.isA(x, y, -1));
                add(c.keeps(x, y, -1));
            }
        }
    }

    private void methods() {
        for (int m = 0; m < c.methods(); m++) {
            for (int k = 0; k <= 7; k++) add(c.ofMethod(m, k));
            add(c.error(m));
            add(c.errorPlace(m));
            for (int p = 0; p < c.ofMethod(m, 6); p++) {
                add(c.codeText(m, p));
                add(c.state(m, p));
            }
            for (int h = 0; h < c.ofMethod(m, 7); h++) for (int k = 0; k <= 5; k++) add(c.ofHandler(m, h, k));
            answers(m);
        }
        add(c.isRight());
    }

    private void answers(int m) {
        for (int x = 4; x < c.exprs(); x++) {
            if (typeOf(x) < 0 || c.ofType(typeOf(x), 0) > 1) continue;
            for (int y = 4; y < c.exprs(); y++) if (typeOf(y) == c.ofMethod(m, 0)) add(c.answer(x, m, y));
        }
    }

    /** The TYPE that an EXPRESSION is of, by its text; -1 of others. */
    private int typeOf(int x) {
        String text = c.exprText(x);
        if (text.charAt(0) != 't' || text.endsWith("]") || text.endsWith("&")) return -1;
        int end = text.indexOf('<');
        return Integer.parseInt(text.substring(1, end < 0 ? text.length() : end));
    }

    private void runs() {
        for (int k = 0; k <= 7; k++) add(c.house(k));
        for (int k = 0; k <= 4; k++) add(c.ofRun(k));
        add(c.out());
        add(c.isSound());
    }

    private void walk() {
        for (int k = 0; k <= 8; k++) add(c.ofWalk(k));
        add(c.walkOut());
        for (int f = 0; f < c.ofWalk(5); f++) {
            for (int k = 0; k <= 2; k++) add(c.ofFrame(f, k));
            add(c.holder(f));
            int m = c.ofFrame(f, 0);
            int[] many = {c.ofMethod(m, 4) + (c.ofMethod(m, 2) == 0 ? 0 : 1), c.ofMethod(m, 5), c.ofFrame(f, 2)};
            for (int what = 0; what <= 2; what++) for (int k = 0; k < many[what]; k++) add(c.value(f, what, k));
        }
        for (int k = 0; k < c.ofWalk(6); k++) {
            add(c.reached(k));
            add(c.thing(c.reached(k)));
        }
    }
}
