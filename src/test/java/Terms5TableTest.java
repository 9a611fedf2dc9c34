/** Terms 5: when the table is drawn, who is in it, and its lines. */
final class Terms5TableTest {
    private static final Check C = Check.ofLines("Terms 5", "5 THE TABLE is drawn once");

    public static void main(String[] args) {
        once();
        whenPoolsAreAtTheirEnd();
        cut();
        twoAtLeast();
        sizes();
        seeds();
        lines();
        C.end();
    }

    private static void once() {
        C.says("5 THE TABLE is drawn once,");
        Pommel p = Scene.fenced(3);
        C.illegal("draw", p, n -> p.draw(n), -1, 51);
        C.same("not drawn by a wrong cut", p.many(9), 0);
        C.same("draw(0)", p.draw(0), 3);
        C.refuses("again", p, () -> p.draw(0));
        Scene.begin(p, 4);
        C.refuses("a bout of it is live", p, () -> p.draw(0));
        Scene.hits(p, 0, 0, 15);
        Scene.winInTable(p, 5, 0);
        C.refuses("it is over", p, () -> p.draw(0));
        C.refuses("with another cut", p, () -> p.draw(50));
        C.same("bouts", p.many(2), 6);
    }

    private static void whenPoolsAreAtTheirEnd() {
        C.says("when no BOUT of a POOL WAITS or is LIVE.");
        Pommel p = Scene.pool(3);
        C.refuses("all wait", p, () -> p.draw(0));
        Scene.fence(p, 0, 5, 0);
        Scene.fence(p, 1, 5, 0);
        C.refuses("the last one waits", p, () -> p.draw(0));
        Scene.begin(p, 2);
        C.refuses("the last one is live", p, () -> p.draw(0));
        p.pass(239);
        C.refuses("the last second", p, () -> p.draw(0));
        p.pass(1);
        C.same("all are over", p.draw(0), 3);
        Pommel first = Scene.pool(3);
        Scene.fence(first, 1, 5, 0);
        Scene.fence(first, 2, 5, 0);
        C.refuses("the first one waits", first, () -> first.draw(0));
        Scene.begin(first, 0);
        C.refuses("the first one is live", first, () -> first.draw(0));
        first.card(0, 0, 2);
        C.same("void and over", first.draw(0), 2);
        Pommel pools = Scene.fencers(6);
        pools.form(2);
        for (int bout = 0; bout < 5; bout++) {
            Scene.fence(pools, bout, 5, 0);
        }
        C.refuses("one of another pool waits", pools, () -> pools.draw(0));
        Scene.fence(pools, 5, 5, 0);
        C.same("all are over", pools.draw(0), 6);
    }

    private static void cut() {
        C.says("Of those that are not OUT the last ones in the ORDER, (as many as they are) * CUT /"
                + " 100, are not in it;");
        int[][] due = {{3, 0, 3}, {3, 33, 3}, {3, 34, 2}, {3, 50, 2}, {4, 24, 4}, {4, 25, 3},
            {4, 50, 2}, {5, 19, 5}, {5, 20, 4}, {5, 50, 3}, {7, 42, 5}, {7, 43, 4}, {9, 11, 9},
            {9, 12, 8}, {9, 50, 5}, {16, 6, 16}, {16, 7, 15}, {16, 49, 9}, {16, 50, 8}};
        for (int[] row : due) {
            Pommel p = Scene.fenced(row[0]);
            C.same("draw(" + row[1] + ") of " + row[0], p.draw(row[1]), row[2]);
            for (int i = 0; i < row[0]; i++) {
                int other = i == 0 ? 1 : 0;
                C.same(i + " in it", p.meet(i, other) == -1 ? 0 : 1, i < row[2] ? 1 : 0);
            }
        }
        // Three of four are left: 33 of 100 are none of them, 34 are one.
        C.same("33 of 100 of three", withoutOne().draw(33), 3);
        Pommel cut = withoutOne();
        C.same("34 of 100 of three", cut.draw(34), 2);
        C.same("the first one", cut.line(0), 1);
        C.same("the second one", cut.line(1), 2);
    }

    /** One of four is out, and has the smallest number; the others are in order. */
    private static Pommel withoutOne() {
        Pommel p = Scene.pool(4);
        p.start(0, 0);
        p.card(0, 0, 2);
        for (int bout = 3; bout < 6; bout++) {
            Scene.fence(p, bout, 5, 0);
        }
        return p;
    }

    private static void twoAtLeast() {
        C.says("there have to be 2 to be in it.");
        Pommel one = Scene.pool(3);
        one.start(0, 0);
        one.card(0, 0, 2);
        Scene.begin(one, 2);
        one.card(0, 0, 2);
        C.same("one is left", one.many(0) - one.many(8), 1);
        C.same("all are void", one.many(6), 3);
        C.refuses("of one", one, () -> one.draw(0));
        C.refuses("of one with a cut", one, () -> one.draw(50));
        Pommel two = Scene.twoLeft();
        C.refuses("50 of 100 of two are one", two, () -> two.draw(50));
        C.same("49 of 100 of two are none", two.draw(49), 2);
        Pommel later = Scene.twoLeft();
        C.refuses("of two", later, () -> later.draw(50));
        C.same("without a cut", later.draw(0), 2);
        C.same("of three", Scene.fenced(3).draw(50), 2);
    }

    private static void sizes() {
        C.says("Its SIZE is 2, 4, 8 or 16, the smallest one that is enough.");
        C.same("not drawn", Scene.fenced(3).many(9), 0);
        Pommel two = Scene.twoLeft();
        two.draw(0);
        C.same("of two", two.many(9), 2);
        int[] due = {4, 4, 8, 8, 8, 8, 16, 16, 16, 16, 16, 16, 16, 16};
        for (int count = 3; count <= 16; count++) {
            C.same("of " + count, Scene.table(count).many(9), due[count - 3]);
        }
    }

    private static void seeds() {
        C.says("SEEDS, from 0, are their places in the ORDER, as it is drawn.");
        Pommel p = Scene.pool(4);
        // The greater number wins each time: the order is 3, 2, 1, 0.
        for (int bout = 0; bout < 6; bout++) {
            Scene.fence(p, bout, 0, 5);
        }
        p.draw(0);
        lines(p, 3, 0, 2, 1);
        Scene.begin(p, 6);
        p.card(0, 0, 2);
        C.same("3 is the last one in the order now", p.order(3, 4), 3);
        C.same("2 is the first one", p.order(2, 4), 0);
        lines(p, 3, 0, 2, 1);
        Pommel out = Scene.twoLeft();
        out.draw(0);
        lines(out, 1, 2);
    }

    private static void lines() {
        C.says("The LINES of a TABLE with the SIZE 1 are: 0. Those of twice the SIZE: of each LINE x"
                + " of the smaller one, in its order, x and (twice the SIZE) - 1 - x.");
        Pommel two = Scene.fenced(3);
        two.draw(50);
        lines(two, 0, 1);
        lines(Scene.table(3), 0, -1, 1, 2);
        lines(Scene.table(4), 0, 3, 1, 2);
        lines(Scene.table(5), 0, -1, 3, 4, 1, -1, 2, -1);
        lines(Scene.table(8), 0, 7, 3, 4, 1, 6, 2, 5);
        lines(Scene.table(9), 0, -1, 7, 8, 3, -1, 4, -1, 1, -1, 6, -1, 2, -1, 5, -1);
        lines(Scene.table(15), 0, -1, 7, 8, 3, 12, 4, 11, 1, 14, 6, 9, 2, 13, 5, 10);
        lines(Scene.table(16), 0, 15, 7, 8, 3, 12, 4, 11, 1, 14, 6, 9, 2, 13, 5, 10);
    }

    private static void lines(Pommel p, int... due) {
        for (int line = 0; line < due.length; line++) {
            C.same("line(" + line + ")", p.line(line), due[line]);
        }
        C.noIndex("line", p, n -> p.line(n), -1, due.length);
    }
}
