/** Promise 8: card. */
final class Promise08Test {
    private static final Check C = new Check("promise 8");

    public static void main(String[] args) {
        wrongOnes();
        yellowAndRed();
        redEnds();
        blackInPool();
        blackInTable();
        C.end();
    }

    private static void wrongOnes() {
        Pommel p = Scene.pool(3);
        C.range("card(n, 0, 0)", p, n -> p.card(n, 0, 0), -1, 3, Integer.MIN_VALUE,
                Integer.MAX_VALUE);
        C.range("card(0, n, 0)", p, n -> p.card(0, n, 0), -1, 2, Integer.MIN_VALUE,
                Integer.MAX_VALUE);
        C.range("card(0, 0, n)", p, n -> p.card(0, 0, n), -1, 3, Integer.MIN_VALUE,
                Integer.MAX_VALUE);
        C.raises("nothing is live", IllegalStateException.class, p, () -> p.card(0, 0, 2));
        p.start(0, 1);
        C.raises("not live there", IllegalStateException.class, p, () -> p.card(2, 0, 2));
    }

    private static void yellowAndRed() {
        Pommel p = Scene.pool(3);
        p.start(0, 1);
        C.same("yellow", p.card(1, 0, 0), 0);
        scores(p, 0, 0, 0);
        C.same("the other's yellow", p.card(1, 1, 0), 0);
        scores(p, 0, 0, 0);
        C.same("a second yellow", p.card(1, 0, 0), 1);
        scores(p, 0, 0, 1);
        C.same("yellow behind red", p.card(1, 0, 0), 1);
        scores(p, 0, 0, 2);
        C.same("red behind yellow", p.card(1, 1, 1), 1);
        scores(p, 0, 1, 2);
        C.same("shown", p.ofBout(0, 10), 2);
        C.same("shown", p.ofBout(0, 11), 2);
        Scene.hits(p, 1, 0, 4);
        p.pass(120);
        p.start(1, 0);
        C.same("in another bout", p.card(0, 0, 0), 0);
        C.same("red at once", p.card(0, 1, 1), 1);
        scores(p, 1, 1, 0);
        C.same("yellow behind red alone", p.card(0, 1, 0), 1);
        scores(p, 1, 2, 0);
    }

    private static void redEnds() {
        Pommel p = Scene.pool(3);
        p.start(0, 0);
        Scene.hits(p, 0, 2, 4);
        p.pass(5);
        C.same("red", p.card(0, 0, 1), 1);
        C.same("over by the goal", p.ofBout(0, 0), 2);
        C.same("winner", p.ofBout(0, 5), 1);
        scores(p, 0, 4, 5);
        C.same("card stays", p.ofBout(0, 10), 2);
        C.same("ended now", p.of(0, 6), 125);
        p.pass(120);
        p.start(1, 0);
        p.pass(180);
        C.same("yellow", p.card(0, 1, 0), 0);
        C.same("live", p.ofBout(1, 0), 1);
        C.same("red in the extra minute", p.card(0, 1, 0), 1);
        C.same("over", p.ofBout(1, 0), 2);
        C.same("winner", p.ofBout(1, 5), 0);
    }

    private static void blackInPool() {
        Pommel p = Scene.pool(4);
        Scene.fence(p, 0, 5, 2);
        Scene.fence(p, 4, 3, 5);
        Scene.begin(p, 1);
        p.hit(0, 2);
        p.card(0, 0, 0);
        p.pass(9);
        C.same("black", p.card(0, 0, 2), 2);
        int at = p.many(7);
        // The bouts are 0-1, 0-2, 0-3, 1-2, 1-3, 2-3.
        int[] due = {3, 3, 3, 0, 2, 0};
        for (int i = 0; i < 6; i++) {
            C.same("bout " + i, p.ofBout(i, 0), due[i]);
        }
        C.same("no winner", p.ofBout(0, 5), -1);
        C.same("score stays", p.ofBout(0, 3) * 10 + p.ofBout(0, 4), 52);
        scores(p, 1, 1, 1);
        C.same("card stays", p.ofBout(1, 10), 3);
        C.same("the other's", p.ofBout(1, 11), 0);
        C.same("piste", p.ofBout(1, 6), -1);
        C.same("seconds", p.ofBout(1, 7), 0);
        C.same("out", p.of(0, 4), 1);
        C.same("ended now", p.of(0, 6), at + 120);
        C.same("ended now for both", p.of(2, 6), at + 120);
        C.yes("one that was over ended as it did", p.of(1, 6) < at + 120);
        C.same("the void one is not met", p.order(1, 0), 1);
        C.same("nor given", p.order(1, 2), 3);
        C.same("nor taken", p.order(1, 3), 5);
        for (int what = 0; what < 4; what++) {
            C.same("by nobody", p.order(0, what), 0);
        }
        p.pass(120);
        p.start(5, 0);
        C.same("the piste is free", p.ofBout(5, 6), 0);
    }

    private static void blackInTable() {
        Pommel p = Scene.table(3);
        Scene.begin(p, 4);
        Scene.hits(p, 0, 1, 3);
        C.same("red", p.card(0, 1, 1), 1);
        scores(p, 4, 1, 3);
        p.pass(4);
        C.same("black", p.card(0, 1, 2), 2);
        C.same("over", p.ofBout(4, 0), 2);
        C.same("the other one wins", p.ofBout(4, 5), 1);
        scores(p, 4, 1, 3);
        C.same("card", p.ofBout(4, 11), 3);
        C.same("goes on", p.ofBout(5, 2), 1);
        C.same("out", p.of(2, 4), 1);
        C.same("ended now", p.of(2, 6), p.many(7) + 120);
        C.same("the bouts of the pool stay", p.ofBout(1, 0), 2);
        C.same("and are met", p.order(2, 0), 2);
        C.same("none is void", p.many(6), 0);
        Scene.begin(p, 5);
        C.same("black for the left one", p.card(0, 0, 2), 2);
        C.same("winner", p.many(10), 1);
    }

    private static void scores(Pommel p, int bout, int left, int right) {
        C.same("left", p.ofBout(bout, 3), left);
        C.same("right", p.ofBout(bout, 4), right);
    }
}
