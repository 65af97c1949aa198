/** Section 7 of the document: each SAMPLE is what comes of its acts, which stand here as the document tells them. */
public final class SamplesTest {
    static final String[] ACTS = {
        "T 1 0 -1 -1; X 0 0 0; F 0 0 0; F 0 0 0; T 0 0 -1 1; M 0 1 1 -1; P 0 0; C 3 0 0; C 3 0 0; C 26 0 4; C 3 1 0; C 9 0 0; "
            + "C 27 0 4; C 3 0 0; C 3 0 0; C 26 1 4; C 1 1 0; C 9 0 0; C 27 1 4; C 25 0 0; M 1 0 0 0; P 1 0; L 1 4; L 1 0; C 1 0 0; "
            + "C 6 1 0; C 5 1 0; C 3 0 0; C 15 0 0; C 18 16 0; C 8 0 0; C 5 1 0; C 5 1 0; C 11 0 0; C 22 0 4; C 5 1 0; C 1 1 0; "
            + "C 9 0 0; C 6 1 0; C 16 2 0; C 8 0 0; C 26 0 4; C 51 0 0; C 8 0 0; C 26 1 4; C 25 0 0",
        "T 2 0 -1 -1; X 0 0 0; M 0 2 2 0; T 0 0 -1 1; X 0 1 0; I 1 4; F 1 0 0; M 1 2 2 0; C 3 0 0; C 26 0 5; C 25 0 0; "
            + "T 0 0 -1 5; X 0 2 0; M 2 2 2 0; C 3 0 0; C 22 1 5; C 1 100 0; C 9 0 0; C 25 0 0; X 2 4 0; T 0 0 -1 1; M 3 0 0 0; P 3 0; "
            + "L 3 7; C 1 2 0; C 37 4 0; C 6 0 0; C 5 0 0; C 1 0 0; C 21 5 0; C 19 0 0; C 3 0 0; C 27 0 5; C 40 4 0; C 5 0 0; C 1 1 0; "
            + "C 21 6 0; C 19 0 0; C 3 0 0; C 1 1 0; C 9 0 0; C 27 0 5; C 40 4 0; C 5 0 0; C 1 0 0; C 39 4 0; C 23 0 4; C 51 0 0; "
            + "C 5 0 0; C 1 1 0; C 39 4 0; C 23 0 4; C 19 0 0; C 51 0 0; C 25 0 0",
        "T 0 0 -1 1; M 0 0 0 0; P 0 0; L 0 0; C 1 10 0; C 3 0 0; C 12 0 0; C 51 0 0; C 48 8 0; C 1 7 0; C 51 0 0; C 49 0 0; "
            + "C 48 13 0; C 19 0 0; C 56 0 0; C 6 0 0; C 48 13 0; C 5 0 0; C 25 0 0; H 2 0 5 5 8; H 0 0 9 9 13",
        "T 0 1 -1 1; X 1 0 3; F 0 3 0; F 0 0 1; M 0 1 1 3; C 3 0 0; C 26 0 4; C 25 0 0; M 0 2 1 -1; P 1 3; C 3 0 0; C 3 1 0; "
            + "C 27 0 4; C 29 1 4; C 1 1 0; C 9 0 0; C 30 1 4; C 25 0 0; X 1 0 0; X 1 0 1; T 0 0 -1 1; M 1 0 0 0; P 2 0; L 2 5; L 2 6; "
            + "C 21 5 0; C 6 0 0; C 21 6 0; C 6 1 0; C 5 0 0; C 3 0 0; C 22 1 5; C 5 1 0; C 5 0 0; C 22 1 6; C 5 1 0; C 1 5 0; "
            + "C 32 0 0; C 22 1 6; C 5 1 0; C 22 0 6; C 34 0 0; C 51 0 0; C 29 1 5; C 51 0 0; C 29 1 6; C 51 0 0; C 5 0 0; C 22 0 5; "
            + "C 25 0 0",
        "T 3 0 -1 -1; X 0 0 0; M 0 0 2 0; P 0 0; T 0 0 -1 1; X 0 1 0; F 1 0 0; M 1 3 2 0; P 1 0; C 3 0 0; C 26 0 5; C 3 1 0; "
            + "C 9 0 0; C 25 0 0; M 1 4 0 0; P 2 0; C 3 0 0; C 1 2 0; C 11 0 0; C 25 0 0; M 1 5 0 0; P 3 0; L 3 5; L 3 4; C 21 5 0; "
            + "C 6 0 0; C 5 0 0; C 1 30 0; C 27 0 5; C 5 0 0; C 45 1 4; C 6 1 0; C 5 1 0; C 3 0 0; C 46 4 0; C 51 0 0; C 45 2 4; "
            + "C 3 0 0; C 46 4 0; C 25 0 0",
        "T 0 0 -1 1; X 2 0 0; M 0 0 0 0; P 0 0; L 0 4; L 0 0; L 0 4; C 1 3 0; C 37 0 0; C 6 0 0; C 5 0 0; C 53 0 0; C 1 0 0; "
            + "C 6 1 0; C 5 1 0; C 3 0 0; C 15 0 0; C 18 23 0; C 1 10 0; C 37 0 0; C 6 2 0; C 5 2 0; C 1 0 0; C 5 1 0; C 40 0 0; "
            + "C 5 1 0; C 1 1 0; C 9 0 0; C 6 1 0; C 16 7 0; C 52 0 0; C 51 0 0; C 54 0 0; C 2 0 0; C 6 0 0; C 55 0 0; C 52 0 0; "
            + "C 51 0 0; C 5 1 0; C 25 0 0",
        "T 0 0 -1 1; X 0 0 0; M 0 1 0 -1; P 0 0; C 3 0 0; C 17 7 0; C 21 2 0; C 19 0 0; C 1 9 0; C 57 0 0; C 47 0 0; C 3 0 0; "
            + "C 1 1 0; C 10 0 0; C 22 0 4; C 48 15 0; C 3 0 0; C 51 0 0; C 49 0 0; C 25 0 0; H 3 7 12 12 15; M 0 0 0 0; P 1 0; L 1 0; "
            + "C 3 0 0; C 22 0 4; C 48 10 0; C 56 0 0; C 1 9 0; C 14 0 0; C 50 0 0; C 56 0 0; C 6 0 0; C 48 10 0; C 5 0 0; C 25 0 0; "
            + "H 1 0 3 7 10; W 3",
        "T 2 0 -1 -1; X 0 0 0; M 0 1 2 -1; T 1 0 -1 -1; X 0 1 0; I 1 4; F 1 0 0; M 1 1 2 -1; C 3 0 0; C 3 0 0; C 26 0 5; "
            + "C 1 1 0; C 9 0 0; C 27 0 5; C 25 0 0; T 0 1 4 1; X 1 2 3; F 2 3 0; M 2 2 1 -1; C 3 0 0; C 28 1 6; C 24 0 4; C 25 0 0; "
            + "X 1 2 5; T 0 0 -1 1; M 3 0 0 0; P 3 0; L 3 7; L 3 5; L 3 4; C 21 7 0; C 6 0 0; C 5 0 0; C 22 2 7; C 5 0 0; C 22 2 7; "
            + "C 5 0 0; C 26 1 7; C 26 0 5; C 51 0 0; C 8 1 0; C 3 0 0; C 27 0 5; C 5 1 0; C 32 5 0; C 35 4 0; C 6 2 0; C 5 2 0; "
            + "C 23 0 4; C 5 2 0; C 34 5 0; C 26 0 5; C 51 0 0; C 5 1 0; C 26 0 5; C 25 0 0",
    };

    public static void main(String[] args) {
        Cellruntime before = new Cellruntime();
        before.sample(4);
        before.run(3, 1, 5, 0, 0);
        for (int k = 0; k < ACTS.length; k++) {
            Cellruntime c = new Cellruntime();
            int methods = c.sample(k);
            Cellruntime d = new Cellruntime();
            Acts acts = new Acts(d);
            for (String act : ACTS[k].split("; ")) acts.act(act);
            Due.is("16 sample(" + k + ") tells its METHODS", methods, d.methods());
            Due.is("16 sample " + k, Told.all(c), Told.all(d));
            Due.is("16 sample " + k + " is RIGHT", d.isRight(), true);
            sameRuns("16 sample " + k, c, d);
            before.sample(k);
            Due.is("16 sample " + k + " from nothing on", Told.made(before), Told.made(c));
            sameRuns("16 sample " + k + " again", before, d);
        }
        Due.fails("16 sample 8", Due.ARGUMENT, () -> before.sample(ACTS.length));
        Due.is("16 the run before stays", before.house(0), 1 + 3 * ACTS.length);
        Due.end("SamplesTest");
    }

    /** LOCALS and what METHODS are given is told by runs alone. */
    private static void sameRuns(String told, Cellruntime c, Cellruntime d) {
        for (int a = -1; a <= 1; a++) {
            int m = c.methods() - 1;
            Due.is(told + ": END", c.run(m, 0, a, 0, 0), d.run(m, 1, a, 0, 0));
            Due.is(told + ": OUT", c.out(), d.out());
            for (int k = 0; k <= 3; k++) Due.is(told + ": ofRun(" + k + ")", c.ofRun(k), d.ofRun(k));
        }
    }

    /** Acts as the document tells them: C and H are for the last METHOD, W for its last HANDLER. */
    private static final class Acts {
        private final Cellruntime c;
        private int m;
        private int h;

        Acts(Cellruntime c) {
            this.c = c;
        }

        void act(String act) {
            String[] words = act.trim().split(" ");
            int[] n = new int[6];
            for (int k = 1; k < words.length; k++) n[k - 1] = Integer.parseInt(words[k]);
            int told;
            switch (words[0]) {
                case "T": told = c.type(n[0], n[1] == 1, n[2], n[3]); break;
                case "X": told = c.expr(n[0], n[1], n[2]); break;
                case "I": told = c.implement(n[0], n[1]); break;
                case "F": told = c.field(n[0], n[1], n[2] == 1); break;
                case "M": told = m = c.method(n[0], n[1], n[2], n[3]); break;
                case "P": told = c.param(n[0], n[1]); break;
                case "L": told = c.local(n[0], n[1]); break;
                case "C": told = c.code(m, n[0], n[1], n[2]); break;
                case "H": told = h = c.handler(m, n[0], n[1], n[2], n[3], n[4]); break;
                case "W": told = c.handles(m, h, n[0]); break;
                default: throw new IllegalStateException(act);
            }
            Due.is("16 " + act + " is done", told >= 0, true);
        }
    }
}
