/** Promise 9: ofBout. */
final class Promise09Test {
    private static final Check C = Check.ofPromise(9);

    public static void main(String[] args) {
        states();
        fencers();
        scoresAndWinners();
        pistes();
        seconds();
        periods();
        priority();
        cards();
        all();
        wrongOnes();
        C.end();
    }

    private static void states() {
        C.says("bout: a BOUT");
        Pommel p = Scene.pool(3);
        C.same("the first one", p.ofBout(0, 2), 1);
        C.same("the last one", p.ofBout(2, 1), 1);
        C.says("what: 0 whether it WAITS (0), is LIVE (1), OVER (2) or VOID (3),");
        C.same("waits", p.ofBout(0, 0), 0);
        p.start(0, 0);
        C.same("is live", p.ofBout(0, 0), 1);
        p.pass(239);
        C.same("is live with its last second", p.ofBout(0, 0), 1);
        p.pass(1);
        C.same("over", p.ofBout(0, 0), 2);
        Scene.begin(p, 1);
        p.card(0, 0, 2);
        C.same("void", p.ofBout(1, 0), 3);
        C.same("void, and was over", p.ofBout(0, 0), 3);
        C.same("of the table, at once", Scene.table(3).ofBout(3, 0), 2);
    }

    private static void fencers() {
        C.says("1 and 2 the LEFT and the RIGHT one (NONE, if it is not known, or there is none),");
        Pommel p = Scene.pool(3);
        C.same("left", p.ofBout(1, 1), 0);
        C.same("right", p.ofBout(1, 2), 2);
        Pommel t = Scene.table(3);
        C.same("left", t.ofBout(3, 1), 0);
        C.same("there is none", t.ofBout(3, 2), -1);
        C.same("who won at once", t.ofBout(5, 1), 0);
        C.same("not known", t.ofBout(5, 2), -1);
        t.start(4, 0);
        C.same("not known while it is live", t.ofBout(5, 2), -1);
        Scene.hits(t, 0, 1, 15);
        C.same("known", t.ofBout(5, 2), 2);
        C.same("they stay in one that is over", t.ofBout(4, 1), 1);
        Pommel four = Scene.table(4);
        C.same("left not known", four.ofBout(8, 1), -1);
        C.same("right not known", four.ofBout(8, 2), -1);
    }

    private static void scoresAndWinners() {
        C.says("3 and 4 their SCORES,");
        Pommel p = Scene.pool(3);
        C.same("left", p.ofBout(0, 3), 0);
        C.same("right", p.ofBout(0, 4), 0);
        p.start(0, 0);
        Scene.hits(p, 0, 0, 3);
        Scene.hits(p, 0, 1, 5);
        C.same("left", p.ofBout(0, 3), 3);
        C.same("right", p.ofBout(0, 4), 5);
        C.says("5 the FENCER who won it (NONE, if it is not OVER),");
        C.same("over", p.ofBout(0, 5), 1);
        C.same("it waits", p.ofBout(1, 5), -1);
        Scene.begin(p, 1);
        C.same("is live", p.ofBout(1, 5), -1);
        Scene.hits(p, 0, 0, 4);
        C.same("is live, and one is ahead", p.ofBout(1, 5), -1);
        p.hit(0, 0);
        C.same("the fencer 0", p.ofBout(1, 5), 0);
        Scene.begin(p, 2);
        p.card(0, 0, 2);
        C.same("void, and was over", p.ofBout(0, 5), -1);
        C.same("void, and was live", p.ofBout(2, 5), -1);
        C.same("still over", p.ofBout(1, 5), 0);
        C.same("won at once", Scene.table(3).ofBout(3, 5), 0);
    }

    private static void pistes() {
        C.says("6 its PISTE (NONE, if it is not LIVE),");
        for (int piste = 0; piste < 3; piste++) {
            Pommel p = Scene.pool(3);
            C.same("waits", p.ofBout(0, 6), -1);
            p.start(0, piste);
            C.same("is live", p.ofBout(0, 6), piste);
            p.pass(200);
            C.same("is live in the extra minute", p.ofBout(0, 6), piste);
            Scene.hits(p, piste, 0, 1);
            C.same("over", p.ofBout(0, 6), -1);
            p.pass(120);
            p.start(1, piste);
            p.card(piste, 0, 2);
            C.same("void", p.ofBout(1, 6), -1);
        }
    }

    private static void seconds() {
        C.says("7 how many seconds of the PERIOD, or of the EXTRA minute, are left (0, if it is not"
                + " LIVE),");
        Pommel p = Scene.pool(3);
        C.same("waits", p.ofBout(0, 7), 0);
        p.start(0, 0);
        C.same("all", p.ofBout(0, 7), 180);
        p.pass(1);
        C.same("but one", p.ofBout(0, 7), 179);
        p.pass(178);
        C.same("one", p.ofBout(0, 7), 1);
        p.pass(1);
        C.same("all of the extra minute", p.ofBout(0, 7), 60);
        p.pass(59);
        C.same("one of the extra minute", p.ofBout(0, 7), 1);
        p.pass(1);
        C.same("over", p.ofBout(0, 7), 0);
        Scene.begin(p, 1);
        p.pass(9);
        Scene.hits(p, 0, 0, 5);
        C.same("over by hits", p.ofBout(1, 7), 0);
        Scene.begin(p, 2);
        p.card(0, 0, 2);
        C.same("void", p.ofBout(2, 7), 0);
        Pommel t = Scene.table(3);
        C.same("without another one", t.ofBout(3, 7), 0);
        t.start(4, 0);
        t.pass(360);
        C.same("all of the last period", t.ofBout(4, 7), 180);
    }

    private static void periods() {
        C.says("8 the PERIOD in which it is, from 1 (behind the last one, in the EXTRA minute, one"
                + " more; 0, if it is not LIVE),");
        Pommel p = Scene.pool(3);
        C.same("waits", p.ofBout(0, 8), 0);
        p.start(0, 0);
        C.same("first", p.ofBout(0, 8), 1);
        p.pass(179);
        C.same("first", p.ofBout(0, 8), 1);
        p.pass(1);
        C.same("extra minute", p.ofBout(0, 8), 2);
        p.pass(60);
        C.same("over", p.ofBout(0, 8), 0);
        Scene.begin(p, 1);
        p.card(0, 0, 2);
        C.same("void", p.ofBout(1, 8), 0);
        Pommel t = Scene.table(3);
        C.same("without another one", t.ofBout(3, 8), 0);
        t.start(4, 0);
        for (int period = 1; period <= 3; period++) {
            C.same("first second", t.ofBout(4, 8), period);
            t.pass(179);
            C.same("last second", t.ofBout(4, 8), period);
            t.pass(1);
        }
        C.same("extra minute", t.ofBout(4, 8), 4);
        t.hit(0, 0);
        C.same("over", t.ofBout(4, 8), 0);
    }

    private static void priority() {
        C.says("9 the FENCER who has PRIORITY in the EXTRA minute (NONE, if it is not in that),");
        for (int bout = 0; bout < 2; bout++) {
            int due = bout == 0 ? 0 : 2;
            Pommel p = Scene.pool(3);
            C.same("waits", p.ofBout(bout, 9), -1);
            p.start(bout, 0);
            C.same("is live", p.ofBout(bout, 9), -1);
            p.pass(179);
            C.same("the last second", p.ofBout(bout, 9), -1);
            p.pass(1);
            C.same("the first one of the extra minute", p.ofBout(bout, 9), due);
            p.pass(59);
            C.same("its last one", p.ofBout(bout, 9), due);
            p.card(0, 0, 0);
            C.same("behind a yellow card", p.ofBout(bout, 9), due);
            p.pass(1);
            C.same("over", p.ofBout(bout, 9), -1);
        }
        Pommel hit = Scene.pool(3);
        hit.start(0, 0);
        hit.pass(180);
        hit.hit(0, 1);
        C.same("over by a hit", hit.ofBout(0, 9), -1);
        Pommel black = Scene.pool(3);
        black.start(0, 0);
        black.pass(180);
        black.card(0, 1, 2);
        C.same("void", black.ofBout(0, 9), -1);
        Pommel t = Scene.table(3);
        t.start(4, 0);
        t.pass(539);
        C.same("not in the last period", t.ofBout(4, 9), -1);
        t.pass(1);
        C.same("in the extra minute", t.ofBout(4, 9), 1);
        C.same("without another one", t.ofBout(3, 9), -1);
    }

    private static void cards() {
        C.says("10 and 11 the CARDS of the LEFT and of the RIGHT one in it: 0 none, 1 YELLOW, 2 RED, 3"
                + " BLACK (the highest one)");
        for (int who = 0; who < 2; who++) {
            Pommel p = Scene.pool(3);
            cards(p, 0, who, 0);
            p.start(0, 0);
            cards(p, 0, who, 0);
            p.card(0, who, 0);
            cards(p, 0, who, 1);
            p.card(0, who, 0);
            cards(p, 0, who, 2);
            p.card(0, who, 0);
            cards(p, 0, who, 2);
            p.card(0, who, 2);
            cards(p, 0, who, 3);
            cards(p, 1, who, 0);
            Pommel red = Scene.pool(3);
            red.start(0, 0);
            red.card(0, who, 1);
            cards(red, 0, who, 2);
            red.card(0, who, 0);
            cards(red, 0, who, 2);
            Scene.hits(red, 0, who, 5);
            cards(red, 0, who, 2);
            Scene.begin(red, 1 + who);
            cards(red, 1 + who, 0, 0);
        }
        Pommel both = Scene.pool(3);
        both.start(0, 0);
        both.card(0, 0, 0);
        both.card(0, 1, 2);
        C.same("left", both.ofBout(0, 10), 1);
        C.same("right", both.ofBout(0, 11), 3);
    }

    /** The card of that one, when the other one has none. */
    private static void cards(Pommel p, int bout, int who, int due) {
        C.same("its own", p.ofBout(bout, 10 + who), due);
        C.same("the other's", p.ofBout(bout, 11 - who), 0);
    }

    private static void all() {
        C.says("Returns that.");
        Pommel p = Scene.pool(3);
        all(p, 0, 0, 0, 1, 0, 0, -1, -1, 0, 0, -1, 0, 0);
        p.start(0, 2);
        p.hit(2, 2);
        p.card(2, 1, 0);
        p.pass(190);
        all(p, 0, 1, 0, 1, 1, 1, -1, 2, 50, 2, 1, 0, 1);
        p.pass(50);
        all(p, 0, 2, 0, 1, 1, 1, 1, -1, 0, 0, -1, 0, 1);
        p.pass(120);
        p.start(1, 1);
        p.card(1, 0, 1);
        p.card(1, 1, 2);
        all(p, 1, 3, 0, 2, 0, 1, -1, -1, 0, 0, -1, 2, 3);
        all(p, 2, 3, 1, 2, 0, 0, -1, -1, 0, 0, -1, 0, 0);
        Pommel t = Scene.table(5);
        all(t, 10, 2, 0, -1, 0, 0, 0, -1, 0, 0, -1, 0, 0);
        all(t, 11, 0, 3, 4, 0, 0, -1, -1, 0, 0, -1, 0, 0);
        all(t, 14, 0, 0, -1, 0, 0, -1, -1, 0, 0, -1, 0, 0);
        all(t, 15, 0, 1, 2, 0, 0, -1, -1, 0, 0, -1, 0, 0);
        all(t, 16, 0, -1, -1, 0, 0, -1, -1, 0, 0, -1, 0, 0);
    }

    private static void all(Pommel p, int bout, int... due) {
        for (int what = 0; what <= 11; what++) {
            C.same("ofBout(" + bout + ", " + what + ")", p.ofBout(bout, what), due[what]);
        }
    }

    private static void wrongOnes() {
        C.says("Throws IndexOutOfBoundsException if there is no such BOUT");
        Pommel p = Scene.pool(3);
        C.noIndex("ofBout(n, 0)", p, n -> p.ofBout(n, 0), -1, 3, Scene.LEAST, Scene.MOST);
        C.noIndex("ofBout(n, 12)", p, n -> p.ofBout(n, 12), -1, 3);
        Pommel none = Scene.fencers(3);
        C.noIndex("not formed", none, n -> none.ofBout(n, 0), 0);
        Pommel t = Scene.table(3);
        C.same("the last one", t.ofBout(5, 0), 0);
        C.noIndex("behind the last one", t, n -> t.ofBout(n, 0), 6);
        C.says("Throws IllegalArgumentException if what is not 0 to 11");
        C.illegal("ofBout(0, n)", p, n -> p.ofBout(0, n), -1, 12, Scene.LEAST, Scene.MOST);
    }
}
