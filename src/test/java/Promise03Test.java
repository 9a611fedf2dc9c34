/** Promise 3: form. Who comes into which pool, and which bouts there are, is in the tests of the terms 2. */
final class Promise03Test {
    private static final Check C = Check.ofPromise(3);

    public static void main(String[] args) {
        forms();
        wrongOnes();
        C.end();
    }

    private static void forms() {
        C.says("Forms POOLS.");
        Pommel p = Scene.fencers(7);
        C.same("no pools", p.many(1), 0);
        C.same("no bouts", p.many(2), 0);
        C.same("form(2)", p.form(2), 9);
        C.same("pools", p.many(1), 2);
        C.same("bouts that wait", p.many(3), 9);
        for (int fencer = 0; fencer < 7; fencer++) {
            C.yes("each one is in a pool", p.of(fencer, 2) >= 0);
            C.yes("and has a spot", p.of(fencer, 3) >= 0);
        }
        C.says("pools: how many");
        for (int pools = 1; pools <= 4; pools++) {
            Pommel some = Scene.fencers(12);
            some.form(pools);
            C.same("many(1)", some.many(1), pools);
        }
        C.says("Returns how many BOUTS there are.");
        int[][] due = {{3, 1, 3}, {4, 1, 6}, {16, 1, 120}, {6, 2, 6}, {7, 2, 9}, {16, 2, 56},
            {9, 3, 9}, {10, 3, 12}, {11, 3, 15}, {16, 3, 35}, {12, 4, 12}, {13, 4, 15}, {16, 4, 24}};
        for (int[] row : due) {
            Pommel some = Scene.fencers(row[0]);
            C.same("form(" + row[1] + ") of " + row[0], some.form(row[1]), row[2]);
            C.same("many(2)", some.many(2), row[2]);
        }
    }

    private static void wrongOnes() {
        C.says("Throws IllegalArgumentException if pools is not 1 to 4");
        Pommel p = Scene.fencers(16);
        C.illegal("form", p, n -> p.form(n), 0, -1, 5, Scene.LEAST, Scene.MOST);
        Pommel two = Scene.fencers(2);
        C.illegal("form of 2", two, n -> two.form(n), 0, 5);
        p.form(4);
        C.illegal("formed", p, n -> p.form(n), 0, 5);
        C.says("Throws IllegalStateException if they are formed, or there are fewer than 3 FENCERS for"
                + " each");
        for (int pools = 1; pools <= 4; pools++) {
            int asked = pools;
            C.refuses("form(" + pools + ") again", p, () -> p.form(asked));
            Pommel few = Scene.fencers(3 * pools - 1);
            C.refuses("form(" + pools + ") of one too few", few, () -> few.form(asked));
            few.fencer(0, 0);
            C.same("form(" + pools + ") of enough", few.form(pools), 3 * pools);
            C.refuses("again", few, () -> few.form(asked));
        }
        Pommel none = new Pommel();
        C.refuses("of none", none, () -> none.form(1));
    }
}
