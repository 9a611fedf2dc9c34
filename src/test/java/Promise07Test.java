/** Promise 7: hit. */
final class Promise07Test {
    private static final Check C = new Check("promise 7");

    public static void main(String[] args) {
        wrongOnes();
        toTheGoal();
        bothAtOnce();
        extraMinute();
        inTheTable();
        C.end();
    }

    private static void wrongOnes() {
        Pommel p = Scene.pool(3);
        C.range("hit(n, 0)", p, n -> p.hit(n, 0), -1, 3, Integer.MIN_VALUE, Integer.MAX_VALUE);
        C.range("hit(0, n)", p, n -> p.hit(0, n), -1, 3, Integer.MIN_VALUE, Integer.MAX_VALUE);
        for (int piste = 0; piste < 3; piste++) {
            int on = piste;
            C.raises("nothing is live", IllegalStateException.class, p, () -> p.hit(on, 0));
        }
        p.start(0, 1);
        C.raises("not live there", IllegalStateException.class, p, () -> p.hit(0, 0));
        C.range("hit(1, n)", p, n -> p.hit(1, n), -1, 3);
    }

    private static void toTheGoal() {
        Pommel p = Scene.pool(3);
        p.start(0, 1);
        for (int i = 1; i <= 4; i++) {
            C.yes("not over by " + i, !p.hit(1, 1));
            C.same("left", p.ofBout(0, 3), 0);
            C.same("right", p.ofBout(0, 4), i);
        }
        C.yes("not over by the left", !p.hit(1, 0));
        p.pass(11);
        C.yes("over by the goal", p.hit(1, 1));
        C.same("left", p.ofBout(0, 3), 1);
        C.same("right", p.ofBout(0, 4), 5);
        C.same("over", p.ofBout(0, 0), 2);
        C.same("winner", p.ofBout(0, 5), 1);
        C.same("ended now", p.of(0, 6), 131);
        C.same("piste", p.ofBout(0, 6), -1);
        C.raises("it is over", IllegalStateException.class, p, () -> p.hit(1, 0));
    }

    private static void bothAtOnce() {
        Pommel p = Scene.pool(3);
        p.start(0, 0);
        Scene.hits(p, 0, 2, 4);
        C.same("left", p.ofBout(0, 3), 4);
        C.same("right", p.ofBout(0, 4), 4);
        C.yes("does not count", !p.hit(0, 2));
        C.same("left", p.ofBout(0, 3), 4);
        C.same("right", p.ofBout(0, 4), 4);
        C.yes("over", p.hit(0, 0));
        p.pass(120);
        p.start(1, 0);
        Scene.hits(p, 0, 0, 4);
        Scene.hits(p, 0, 1, 3);
        C.yes("only one would have its goal: over", p.hit(0, 2));
        C.same("left", p.ofBout(1, 3), 5);
        C.same("right", p.ofBout(1, 4), 4);
        C.same("winner", p.ofBout(1, 5), 0);
        p.pass(120);
        p.start(2, 0);
        Scene.hits(p, 0, 0, 3);
        Scene.hits(p, 0, 1, 4);
        C.yes("only the right one would have its goal: over", p.hit(0, 2));
        C.same("left", p.ofBout(2, 3), 4);
        C.same("right", p.ofBout(2, 4), 5);
        C.same("winner", p.ofBout(2, 5), 2);
    }

    private static void extraMinute() {
        Pommel p = Scene.pool(3);
        p.start(0, 0);
        p.pass(180);
        C.same("priority", p.ofBout(0, 9), 0);
        C.yes("both do not count", !p.hit(0, 2));
        C.same("left", p.ofBout(0, 3), 0);
        C.yes("the first one ends it", p.hit(0, 1));
        C.same("winner", p.ofBout(0, 5), 1);
        C.same("right", p.ofBout(0, 4), 1);
    }

    private static void inTheTable() {
        Pommel p = Scene.table(3);
        Scene.begin(p, 4);
        Scene.hits(p, 0, 2, 14);
        C.same("left", p.ofBout(4, 3), 14);
        C.yes("does not count", !p.hit(0, 2));
        C.same("live", p.ofBout(4, 0), 1);
        C.yes("over", p.hit(0, 1));
        C.same("right", p.ofBout(4, 4), 15);
        C.same("goes on", p.ofBout(5, 2), 2);
        C.same("what is in the pool stays", p.order(2, 0), 2);
    }
}
