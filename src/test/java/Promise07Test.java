/** Promise 7: hit. Which hits count is in a test of the terms 3. */
final class Promise07Test {
    private static final Check C = Check.ofPromise(7);

    public static void main(String[] args) {
        tells();
        over();
        wrongOnes();
        C.end();
    }

    private static void tells() {
        C.says("Tells a HIT.");
        Pommel p = Scene.pool(6);
        int[] bouts = {Scene.bout(6, 0, 1), Scene.bout(6, 2, 3), Scene.bout(6, 4, 5)};
        for (int piste = 0; piste < 3; piste++) {
            p.start(bouts[piste], piste);
        }
        p.hit(0, 0);
        scores(p, bouts[0], 1, 0);
        C.says("piste: the PISTE");
        scores(p, bouts[1], 0, 0);
        p.hit(2, 1);
        scores(p, bouts[2], 0, 1);
        p.hit(1, 2);
        scores(p, bouts[1], 1, 1);
        scores(p, bouts[0], 1, 0);
        C.says("who: 0 of the LEFT one, 1 of the RIGHT one, 2 of both");
        p.hit(0, 0);
        scores(p, bouts[0], 2, 0);
        p.hit(0, 1);
        scores(p, bouts[0], 2, 1);
        p.hit(0, 2);
        scores(p, bouts[0], 3, 2);
    }

    private static void over() {
        C.says("Returns whether the BOUT is OVER by it.");
        for (int who = 0; who < 2; who++) {
            Pommel p = Scene.pool(3);
            p.start(0, 1);
            for (int i = 1; i <= 4; i++) {
                C.yes("not by " + i, !p.hit(1, who));
            }
            C.yes("by 5", p.hit(1, who));
            C.same("over", p.ofBout(0, 0), 2);
            Pommel extra = Scene.pool(3);
            extra.start(0, 1);
            extra.pass(180);
            C.yes("not by one that does not count", !extra.hit(1, 2));
            C.yes("by the first one in the extra minute", extra.hit(1, who));
            Pommel both = Scene.pool(3);
            both.start(0, 1);
            Scene.hits(both, 1, who, 4);
            C.yes("by one of both", both.hit(1, 2));
            Pommel t = Scene.table(3);
            t.start(4, 0);
            for (int i = 1; i <= 14; i++) {
                C.yes("not by " + i, !t.hit(0, who));
            }
            C.yes("by 15", t.hit(0, who));
        }
        Pommel neither = Scene.pool(3);
        neither.start(0, 1);
        Scene.hits(neither, 1, 2, 4);
        C.yes("not by one of both that does not count", !neither.hit(1, 2));
    }

    private static void wrongOnes() {
        C.says("Throws IllegalArgumentException if piste is not 0 to 2, or who is not 0 to 2");
        Pommel p = Scene.pool(3);
        C.illegal("hit(n, 0)", p, n -> p.hit(n, 0), -1, 3, Scene.LEAST, Scene.MOST);
        C.illegal("hit(0, n)", p, n -> p.hit(0, n), -1, 3, Scene.LEAST, Scene.MOST);
        p.start(0, 1);
        C.illegal("hit(1, n)", p, n -> p.hit(1, n), -1, 3, Scene.LEAST, Scene.MOST);
        C.illegal("hit(n, 0), live", p, n -> p.hit(n, 0), -1, 3);
        C.says("Throws IllegalStateException if no BOUT is LIVE there");
        C.refuses("another piste", p, () -> p.hit(0, 0));
        C.refuses("another piste", p, () -> p.hit(2, 2));
        Scene.hits(p, 1, 0, 5);
        C.refuses("it is over", p, () -> p.hit(1, 0));
        Pommel time = Scene.pool(3);
        time.start(0, 1);
        time.pass(240);
        C.refuses("it is over by time", time, () -> time.hit(1, 1));
        Pommel black = Scene.pool(3);
        black.start(0, 1);
        black.card(1, 0, 2);
        C.refuses("it is void", black, () -> black.hit(1, 2));
        for (int who = 0; who <= 2; who++) {
            int asked = who;
            Pommel none = Scene.pool(3);
            C.refuses("nothing was started", none, () -> none.hit(0, asked));
        }
    }

    private static void scores(Pommel p, int bout, int left, int right) {
        C.same("left of " + bout, p.ofBout(bout, 3), left);
        C.same("right of " + bout, p.ofBout(bout, 4), right);
    }
}
