/** Promises 52 to 55: the whole. */
public final class WholeTest {
    public static void main(String[] args) {
        house();
        houseOfRights();
        knock();
        isSound();
        soundSamples();
        digestOfNew();
        digests();
        digestKeeps();
        Due.end("WholeTest");
    }

    private static void house() {
        Cellruntime c = new Cellruntime();
        int[] first = {0, 0, 0, 0, 120, 1, 0, 0};
        for (int k = 0; k < 8; k++) Due.is("52 house(" + k + ") at first", c.house(k), first[k]);
        Due.fails("52 what -1", Due.ARGUMENT, () -> c.house(-1));
        Due.fails("52 what 8", Due.ARGUMENT, () -> c.house(8));
        c.sample(6);
        c.run(1, 0, 3, 0, 0);
        c.run(1, 1, 9, 0, 0);
        c.run(1, 1, 9, 0, 0);
        c.run(1, 0, 1, 0, 0);
        c.run(0, 0, 2, 0, 0);
        c.walk(1, 1, 0, 0);
        c.step(600);
        c.areSame(1, 1, 0, 0);
        c.limit(77);
        c.share(false);
        int[] then = {5, 2, 3, 0, 77, 0, 0, 2};
        for (int k = 0; k < 8; k++) Due.is("52 house(" + k + ")", c.house(k), then[k]);
        c.change(0, 0, 9, 0, 0);
        c.run(1, 0, 1, 0, 0);
        Due.is("52 one that is not let", c.house(0), 5);
        c.sample(2);
        c.method(0, 3, 0, -1);
        c.code(1, 16, 0, 0);
        c.run(1, 0, 0, 0, 0);
        Due.is("52 CUT", c.house(3), 1);
        Due.is("52 all", c.house(0), 6);
    }

    private static void houseOfRights() {
        Cellruntime c = new Cellruntime();
        c.sample(1);
        Due.is("52 also those of INTERFACES", c.house(7), 4);
        c.change(3, 0, 9, 0, 0);
        Due.is("52 one less", c.house(7), 3);
        c.method(0, 9, 2, -1);
        Due.is("52 one more, and those of what is not WHOLE less", c.house(7), 2);
    }

    private static void knock() {
        Cellruntime c = new Cellruntime();
        Due.is("53 first", c.knock(), 1);
        Due.is("53 second", c.knock(), 2);
        c.clear();
        Due.is("52 told", c.house(6), 2);
    }

    private static void isSound() {
        Cellruntime c = new Cellruntime();
        Due.is("54 a new one", c.isSound(), true);
        c.type(0, false, -1, 1);
        c.method(0, 0, 0, -1);
        c.code(0, 9, 0, 0);
        Due.is("54 what is not RIGHT does not count", c.isSound(), true);
    }

    /** At each STEP of walks through all samples: sound, and a collection changes no text. */
    private static void soundSamples() {
        int[][] entries = {{0, 1}, {1, 3}, {2, 0}, {3, 2}, {4, 3}, {5, 0}, {6, 1}, {7, 3}};
        for (int[] e : entries) {
            Cellruntime c = new Cellruntime();
            c.sample(e[0]);
            for (int a = 0; a <= 4; a += 2) {
                c.walk(e[1], a, 0, 0);
                Due.is("54 at first", c.isSound(), true);
                while (c.step(1) == 1) {
                    Due.is("54 behind a STEP", c.isSound(), true);
                    String before = all(c);
                    c.collect();
                    Due.is("54 texts behind a collection", all(c), before);
                }
            }
        }
    }

    private static String all(Cellruntime c) {
        StringBuilder all = new StringBuilder();
        for (int f = 0; f < c.ofWalk(5); f++) {
            int m = c.ofFrame(f, 0);
            int parameters = c.ofMethod(m, 4) + (c.ofMethod(m, 2) == 0 ? 0 : 1);
            for (int k = 0; k < parameters; k++) all.append(c.value(f, 0, k)).append(' ');
            for (int k = 0; k < c.ofMethod(m, 5); k++) all.append(c.value(f, 1, k)).append(' ');
            for (int k = 0; k < c.ofFrame(f, 2); k++) all.append(c.value(f, 2, k)).append(' ');
        }
        for (int k = 0; k < c.ofWalk(6); k++) all.append(c.reached(k)).append(c.thing(c.reached(k)));
        return all.toString();
    }

    private static void digestOfNew() {
        // house: 0 0 0 0 120 1 0 0; no types; 4 expressions: 3 1, 6 1, 5 1, 1 -1; no methods; right; -1 five times; OUT 0; sound.
        long[] all = {0, 0, 0, 0, 120, 1, 0, 0, 0, 4, 3, 1, 6, 1, 5, 1, 1, -1, 0, 1, -1, -1, -1, -1, -1, 0, 1};
        long d = 7674;
        for (long v : all) d = d * 31 + v;
        Due.is("55 of a new one", new Cellruntime().digest(), d);
    }

    private static void digests() {
        Cellruntime c = new Cellruntime();
        for (int k = 0; k < 8; k++) {
            c.sample(k);
            Due.is("55 sample " + k, c.digest(), Due.digest(c));
            int m = c.methods() - 1;
            c.limit(100 + k);
            c.run(m, 1, 5, 0, 0);
            Due.is("55 behind a run", c.digest(), Due.digest(c));
            c.walk(m, 3, 0, 0);
            for (int n = 1; n < 40; n += 3) {
                c.step(n);
                Due.is("55 on a WALK of " + k, c.digest(), Due.digest(c));
            }
            c.share(k % 2 == 0);
            c.knock();
            Due.is("55 as it knocked", c.digest(), Due.digest(c));
            c.change(m, 0, 9, 0, 0);
            Due.is("55 with an ERROR", c.digest(), Due.digest(c));
        }
    }

    private static void digestKeeps() {
        Cellruntime c = new Cellruntime();
        c.sample(7);
        c.walk(3, 6, 0, 0);
        c.step(12);
        long one = c.digest();
        Due.is("55 twice", c.digest(), one);
        c.knock();
        Due.is("55 another one", c.digest() == one, false);
    }
}
