/** Promise 20: winnerIn. */
final class Promise20Test {
    private static final Check C = Check.ofPromise(20);

    public static void main(String[] args) {
        which();
        wins();
        notOver();
        asItComes();
        wrongOnes();
        C.end();
    }

    private static void which() {
        C.says("piste: a PISTE");
        Pommel p = Scene.pool(6);
        int[] bouts = {Scene.bout(6, 0, 1), Scene.bout(6, 2, 3), Scene.bout(6, 4, 5)};
        for (int piste = 0; piste < 3; piste++) {
            p.start(bouts[piste], piste);
            p.hit(piste, 1);
        }
        for (int piste = 0; piste < 3; piste++) {
            asks(p, piste, 180, 2 * piste + 1);
        }
        C.says("seconds: how much time");
        asks(p, 0, 1, -1);
        asks(p, 0, 179, -1);
        asks(p, 0, 180, 1);
        asks(p, 0, 600, 1);
    }

    private static void wins() {
        C.says("Returns who would win the BOUT that is LIVE there, within so much time without a HIT;");
        Pommel p = Scene.pool(3);
        p.start(1, 1);
        // 1 and 0 are odd: the right one has priority, behind the extra minute.
        asks(p, 1, 240, 2);
        asks(p, 1, 241, 2);
        asks(p, 1, 600, 2);
        p.hit(1, 2);
        asks(p, 1, 240, 0);
        p.hit(1, 0);
        asks(p, 1, 180, 0);
        asks(p, 1, 240, 0);
        Scene.hits(p, 1, 1, 2);
        asks(p, 1, 180, 2);
        p.pass(179);
        asks(p, 1, 1, 2);
        Pommel extra = Scene.pool(3);
        extra.start(0, 0);
        extra.pass(180);
        asks(extra, 0, 60, 0);
        extra.pass(59);
        asks(extra, 0, 1, 0);
        Pommel t = Scene.table(3);
        t.start(4, 0);
        asks(t, 0, 600, 1);
        t.hit(0, 1);
        asks(t, 0, 540, 2);
        t.pass(200);
        asks(t, 0, 340, 2);
        t.pass(339);
        asks(t, 0, 1, 2);
        t.hit(0, 0);
        // 4 and 1 are odd.
        asks(t, 0, 61, 2);
    }

    private static void notOver() {
        C.says("NONE if it would not be OVER.");
        Pommel p = Scene.pool(3);
        p.start(1, 1);
        asks(p, 1, 1, -1);
        asks(p, 1, 180, -1);
        asks(p, 1, 239, -1);
        p.hit(1, 0);
        asks(p, 1, 179, -1);
        p.pass(178);
        asks(p, 1, 1, -1);
        asks(p, 1, 2, 0);
        p.hit(1, 1);
        asks(p, 1, 61, -1);
        p.pass(2);
        asks(p, 1, 59, -1);
        Pommel t = Scene.table(3);
        t.start(4, 0);
        asks(t, 0, 599, -1);
        t.hit(0, 1);
        asks(t, 0, 539, -1);
        t.pass(180);
        asks(t, 0, 359, -1);
        t.hit(0, 0);
        asks(t, 0, 419, -1);
        t.pass(360);
        asks(t, 0, 59, -1);
    }

    /** For each time that there is, at some points of a bout, the same as when the time passes. */
    private static void asItComes() {
        for (int before : new int[] {1, 179, 180, 359, 360, 500, 539, 540, 599}) {
            for (int seconds : new int[] {1, 2, 59, 60, 61, 180, 240, 359, 360, 420, 599, 600}) {
                for (int who = 0; who <= 2; who++) {
                    Pommel p = Scene.table(3);
                    p.start(4, 0);
                    p.hit(0, who);
                    p.pass(before);
                    if (p.ofBout(4, 0) == 1) {
                        int asked = p.winnerIn(0, seconds);
                        p.pass(seconds);
                        C.same("as it comes, " + seconds + " behind " + before, asked,
                                p.ofBout(4, 5));
                    }
                }
            }
        }
    }

    private static void asks(Pommel p, int piste, int seconds, int due) {
        long before = p.digest();
        C.same("winnerIn(" + piste + ", " + seconds + ")", p.winnerIn(piste, seconds), due);
        C.same("nothing is changed", p.digest(), before);
    }

    private static void wrongOnes() {
        C.says("Throws IllegalArgumentException if piste is not 0 to 2, or seconds is not 1 to 600");
        Pommel p = Scene.pool(3);
        C.illegal("nothing is live", p, n -> p.winnerIn(n, 1), -1, 3, Scene.LEAST, Scene.MOST);
        C.illegal("nothing is live", p, n -> p.winnerIn(0, n), -1, 0, 601, Scene.LEAST,
                Scene.MOST);
        p.start(0, 0);
        C.illegal("winnerIn(n, 600)", p, n -> p.winnerIn(n, 600), -1, 3, Scene.LEAST, Scene.MOST);
        C.illegal("winnerIn(0, n)", p, n -> p.winnerIn(0, n), -1, 0, 601, Scene.LEAST, Scene.MOST);
        C.says("Throws IllegalStateException if no BOUT is LIVE there");
        C.refuses("another piste", p, () -> p.winnerIn(1, 1));
        C.refuses("another piste", p, () -> p.winnerIn(2, 600));
        p.pass(240);
        C.refuses("it is over", p, () -> p.winnerIn(0, 1));
        Pommel none = new Pommel();
        C.refuses("of a new one", none, () -> none.winnerIn(0, 1));
        Pommel black = Scene.pool(3);
        black.start(0, 2);
        black.card(2, 0, 2);
        C.refuses("it is void", black, () -> black.winnerIn(2, 600));
    }
}
