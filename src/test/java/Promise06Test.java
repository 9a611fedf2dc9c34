/** Promise 6: pass. How live bouts go on is in a test of the terms 3. */
final class Promise06Test {
    private static final Check C = Check.ofPromise(6);

    public static void main(String[] args) {
        C.says("Time passes.");
        Pommel p = Scene.pool(6);
        C.same("many(7)", p.many(7), 0);
        p.pass(1);
        C.same("many(7)", p.many(7), 1);
        C.says("seconds: how much");
        p.pass(600);
        C.same("the most", p.many(7), 601);
        p.pass(1);
        C.same("the least", p.many(7), 602);
        C.says("Returns how many BOUTS are OVER by that.");
        C.same("nothing is live", p.pass(600), 0);
        int[] bouts = {Scene.bout(6, 0, 1), Scene.bout(6, 2, 3), Scene.bout(6, 4, 5)};
        for (int piste = 0; piste < 3; piste++) {
            p.start(bouts[piste], piste);
            p.hit(piste, 0);
        }
        C.same("none", p.pass(179), 0);
        C.same("three with one second", p.pass(1), 3);
        C.same("they are over", p.many(5), 3);
        C.same("not again", p.pass(600), 0);
        one();
        two();
        byHit();
        C.says("Throws IllegalArgumentException if seconds is not 1 to 600");
        C.illegal("pass", p, n -> p.pass(n), 0, -1, 601, Scene.LEAST, Scene.MOST);
        Pommel none = new Pommel();
        C.illegal("pass of a new one", none, n -> none.pass(n), 0, 601);
        C.same("many(7)", none.many(7), 0);
        C.end();
    }

    private static void one() {
        Pommel p = Scene.pool(4);
        p.start(0, 1);
        p.hit(1, 1);
        p.start(5, 2);
        C.same("the other one is in its extra minute", p.pass(180), 1);
        C.same("none with the last second but one", p.pass(59), 0);
        C.same("the other one", p.pass(1), 1);
    }

    private static void two() {
        Pommel p = Scene.pool(4);
        p.start(0, 1);
        p.pass(20);
        p.start(5, 2);
        C.same("both, one behind the other", p.pass(600), 2);
        C.same("the first one", p.of(0, 6), 240 + 120);
        C.same("the second one", p.of(2, 6), 260 + 120);
    }

    private static void byHit() {
        Pommel p = Scene.pool(4);
        p.start(0, 1);
        Scene.hits(p, 1, 0, 5);
        C.same("one that was over by hits is not counted", p.pass(600), 0);
        p.start(5, 1);
        p.card(1, 0, 2);
        C.same("one that was void is not counted", p.pass(600), 0);
    }
}
