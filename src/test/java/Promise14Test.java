/** Promise 14: draw. */
final class Promise14Test {
    private static final Check C = new Check("promise 14");

    public static void main(String[] args) {
        sizes();
        cuts();
        tooEarly();
        outOnes();
        rounds();
        C.end();
    }

    private static void sizes() {
        int[][] due = {{3, 4, 3}, {4, 4, 3}, {5, 8, 7}, {8, 8, 7}, {9, 16, 15}};
        for (int[] row : due) {
            Pommel p = Scene.pool(row[0]);
            Scene.fencePools(p);
            int before = p.many(2);
            C.same("draw(0) of " + row[0], p.draw(0), row[0]);
            C.same("size", p.many(9), row[1]);
            C.same("bouts", p.many(2) - before, row[2]);
        }
        Pommel all = Scene.fencers(16);
        all.form(4);
        Scene.fencePools(all);
        C.same("draw(0) of 16", all.draw(0), 16);
        C.same("size", all.many(9), 16);
    }

    private static void cuts() {
        int[][] due = {{3, 33, 3}, {3, 34, 2}, {3, 50, 2}, {4, 24, 4}, {4, 25, 3}, {4, 50, 2},
            {5, 50, 3}, {7, 42, 5}, {7, 43, 4}, {9, 50, 5}, {9, 1, 9}};
        for (int[] row : due) {
            Pommel p = Scene.pool(row[0]);
            Scene.fencePools(p);
            C.same("draw(" + row[1] + ") of " + row[0], p.draw(row[1]), row[2]);
            for (int i = 0; i < row[0]; i++) {
                int other = i == 0 ? 1 : 0;
                C.same("in it", p.meet(i, other) == -1 ? 0 : 1, i < row[2] ? 1 : 0);
            }
        }
        Pommel two = Scene.pool(3);
        Scene.fencePools(two);
        C.range("draw", two, n -> two.draw(n), -1, 51, Integer.MIN_VALUE, Integer.MAX_VALUE);
        two.draw(50);
        C.same("size of 2", two.many(9), 2);
        C.same("bouts of 2", two.many(2), 4);
    }

    private static void tooEarly() {
        Pommel p = Scene.fencers(3);
        C.raises("not formed", IllegalStateException.class, p, () -> p.draw(0));
        C.raises("not formed, wrong cut", IllegalArgumentException.class, p, () -> p.draw(51));
        p.form(1);
        C.raises("all wait", IllegalStateException.class, p, () -> p.draw(0));
        Scene.fence(p, 0, 5, 0);
        Scene.fence(p, 1, 5, 0);
        C.raises("one waits", IllegalStateException.class, p, () -> p.draw(0));
        Scene.begin(p, 2);
        C.raises("one is live", IllegalStateException.class, p, () -> p.draw(0));
        Scene.hits(p, 0, 0, 5);
        C.same("all are over", p.draw(0), 3);
        C.raises("drawn", IllegalStateException.class, p, () -> p.draw(0));
        C.raises("drawn, wrong cut", IllegalArgumentException.class, p, () -> p.draw(-1));
    }

    private static void outOnes() {
        Pommel p = Scene.pool(3);
        Scene.fence(p, 0, 5, 0);
        Scene.begin(p, 1);
        p.card(0, 0, 2);
        Scene.fence(p, 2, 5, 0);
        C.same("void and over", p.draw(0), 2);
        C.same("line 0", p.line(0), 1);
        C.same("line 1", p.line(1), 2);
        Pommel one = Scene.pool(3);
        one.start(0, 0);
        one.card(0, 0, 2);
        Scene.begin(one, 2);
        one.card(0, 0, 2);
        C.same("all are void", one.many(6), 3);
        C.raises("one is left", IllegalStateException.class, one, () -> one.draw(0));
        Pommel of3 = Scene.pool(4);
        of3.start(0, 0);
        of3.card(0, 0, 2);
        for (int bout = 3; bout < 6; bout++) {
            Scene.fence(of3, bout, 5, 0);
        }
        C.same("34 of 100 of three", of3.draw(34), 2);
    }

    private static void rounds() {
        Pommel p = Scene.fullTable();
        int[] lefts = {0, 7, 3, 4, 1, 6, 2, 5};
        for (int i = 0; i < 8; i++) {
            C.same("left", p.ofBout(24 + i, 1), lefts[i]);
            C.same("right", p.ofBout(24 + i, 2), 15 - lefts[i]);
        }
        for (int bout = 32; bout < 39; bout++) {
            C.same("left is not known", p.ofBout(bout, 1), -1);
            C.same("right is not known", p.ofBout(bout, 2), -1);
        }
        p.pass(120);
        for (int bout = 24; bout < 38; bout++) {
            int who = bout % 3 == 0 ? 0 : 1;
            p.start(bout, 0);
            p.hit(0, who);
            p.pass(600);
            p.pass(120);
            int next = bout < 32 ? 32 + (bout - 24) / 2
                    : bout < 36 ? 36 + (bout - 32) / 2 : 38;
            C.same("goes on from " + bout, p.ofBout(next, 1 + bout % 2), p.ofBout(bout, 1 + who));
        }
        C.same("no more bouts", p.many(2), 39);
        C.same("the last one waits", p.reason(38), 0);
    }
}
