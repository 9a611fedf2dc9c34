/** Promise 8: card. What cards do is in a test of the terms 3. */
final class Promise08Test {
    private static final Check C = Check.ofPromise(8);

    public static void main(String[] args) {
        shows();
        inTruth();
        wrongOnes();
        C.end();
    }

    private static void shows() {
        C.says("Shows a CARD.");
        Pommel p = Scene.pool(6);
        int[] bouts = {Scene.bout(6, 0, 1), Scene.bout(6, 2, 3), Scene.bout(6, 4, 5)};
        for (int piste = 0; piste < 3; piste++) {
            p.start(bouts[piste], piste);
        }
        p.card(0, 0, 0);
        C.same("it is shown", p.ofBout(bouts[0], 10), 1);
        C.says("piste: the PISTE");
        C.same("not on another one", p.ofBout(bouts[1], 10), 0);
        p.card(2, 0, 1);
        C.same("on the last one", p.ofBout(bouts[2], 10), 2);
        C.same("not on another one", p.ofBout(bouts[1], 10), 0);
        C.says("who: 0 to the LEFT one, 1 to the RIGHT one");
        p.card(1, 1, 1);
        C.same("not of the left one", p.ofBout(bouts[1], 10), 0);
        C.same("of the right one", p.ofBout(bouts[1], 11), 2);
        C.same("a hit of the left one", p.ofBout(bouts[1], 3), 1);
        p.card(1, 0, 0);
        C.same("of the left one", p.ofBout(bouts[1], 10), 1);
        C.says("kind: its kind");
        p.card(1, 0, 2);
        C.same("black", p.ofBout(bouts[1], 10), 3);
        C.same("out", p.of(2, 4), 1);
        C.same("the right one is not", p.of(3, 4), 0);
    }

    private static void inTruth() {
        C.says("Returns the kind that it is in truth.");
        for (int who = 0; who < 2; who++) {
            Pommel p = Scene.pool(3);
            p.start(0, 2);
            C.same("yellow", p.card(2, who, 0), 0);
            C.same("a second yellow", p.card(2, who, 0), 1);
            C.same("a third yellow", p.card(2, who, 0), 1);
            C.same("red", p.card(2, who, 1), 1);
            C.same("black", p.card(2, who, 2), 2);
            Pommel red = Scene.pool(3);
            red.start(0, 2);
            C.same("red at once", red.card(2, who, 1), 1);
            C.same("yellow behind red", red.card(2, who, 0), 1);
            C.same("the other's first", red.card(2, 1 - who, 0), 0);
            Pommel last = Scene.pool(3);
            last.start(0, 2);
            last.card(2, who, 0);
            Scene.hits(last, 2, 1 - who, 4);
            C.same("a second yellow, by which it is over", last.card(2, who, 0), 1);
            C.same("over", last.ofBout(0, 0), 2);
            Pommel black = Scene.pool(3);
            black.start(0, 2);
            C.same("black at once", black.card(2, who, 2), 2);
        }
    }

    private static void wrongOnes() {
        C.says("Throws IllegalArgumentException if piste is not 0 to 2, who is not 0 to 1, or kind is"
                + " not 0 to 2");
        Pommel p = Scene.pool(3);
        C.illegal("nothing is live", p, n -> p.card(n, 0, 0), -1, 3, Scene.LEAST, Scene.MOST);
        C.illegal("nothing is live", p, n -> p.card(0, n, 0), -1, 2, Scene.LEAST, Scene.MOST);
        C.illegal("nothing is live", p, n -> p.card(0, 0, n), -1, 3, Scene.LEAST, Scene.MOST);
        p.start(0, 1);
        C.illegal("card(n, 0, 2)", p, n -> p.card(n, 0, 2), -1, 3, Scene.LEAST, Scene.MOST);
        C.illegal("card(1, n, 2)", p, n -> p.card(1, n, 2), -1, 2, Scene.LEAST, Scene.MOST);
        C.illegal("card(1, 0, n)", p, n -> p.card(1, 0, n), -1, 3, Scene.LEAST, Scene.MOST);
        C.says("Throws IllegalStateException if no BOUT is LIVE there");
        for (int kind = 0; kind <= 2; kind++) {
            int asked = kind;
            C.refuses("another piste", p, () -> p.card(0, 0, asked));
            C.refuses("another piste", p, () -> p.card(2, 1, asked));
        }
        Scene.hits(p, 1, 0, 5);
        C.refuses("it is over", p, () -> p.card(1, 0, 2));
        Pommel time = Scene.pool(3);
        time.start(0, 1);
        time.pass(240);
        C.refuses("it is over by time", time, () -> time.card(1, 1, 2));
        Pommel black = Scene.pool(3);
        black.start(0, 1);
        black.card(1, 0, 2);
        C.refuses("it is void", black, () -> black.card(1, 1, 2));
    }
}
