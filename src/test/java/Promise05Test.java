/** Promise 5: start. When a bout is ready is in a test of the terms 3. */
final class Promise05Test {
    private static final Check C = Check.ofPromise(5);

    public static void main(String[] args) {
        starts();
        wrongOnes();
        notReady();
        taken();
        C.end();
    }

    private static void starts() {
        C.says("Starts a BOUT.");
        Pommel p = Scene.pool(3);
        p.start(2, 0);
        C.same("live", p.ofBout(2, 0), 1);
        C.same("seconds", p.ofBout(2, 7), 180);
        C.same("period", p.ofBout(2, 8), 1);
        C.same("many live", p.many(4), 1);
        C.same("the left one is in it", p.of(1, 5), 2);
        C.same("the right one is in it", p.of(2, 5), 2);
        C.says("bout: the BOUT");
        C.same("the first one waits", p.ofBout(0, 0), 0);
        Pommel first = Scene.pool(3);
        first.start(0, 0);
        C.same("the first one", first.ofBout(0, 0), 1);
        Pommel last = Scene.table(3);
        last.start(4, 0);
        C.same("one of the table", last.ofBout(4, 0), 1);
        C.says("piste: the PISTE");
        for (int piste = 0; piste < 3; piste++) {
            Pommel on = Scene.pool(3);
            on.start(0, piste);
            C.same("piste", on.ofBout(0, 6), piste);
        }
    }

    private static void wrongOnes() {
        C.says("Throws IndexOutOfBoundsException if there is no such BOUT");
        Pommel p = Scene.pool(3);
        C.noIndex("start(n, 0)", p, n -> p.start(n, 0), -1, 3, Scene.LEAST, Scene.MOST);
        C.noIndex("start(n, 3)", p, n -> p.start(n, 3), -1, 3);
        Pommel none = Scene.fencers(3);
        C.noIndex("not formed", none, n -> none.start(n, 0), 0);
        Pommel t = Scene.table(3);
        C.noIndex("behind the table", t, n -> t.start(n, 0), 6);
        C.says("Throws IllegalArgumentException if piste is not 0 to 2");
        C.illegal("start(0, n)", p, n -> p.start(0, n), -1, 3, Scene.LEAST, Scene.MOST);
        p.start(0, 0);
        C.illegal("live", p, n -> p.start(0, n), -1, 3);
        C.illegal("a fencer is live", p, n -> p.start(1, n), -1, 3);
    }

    private static void notReady() {
        C.says("Throws IllegalStateException if it is not READY,");
        Pommel p = Scene.pool(3);
        p.start(0, 0);
        C.refuses("it is live", p, () -> p.start(0, 0));
        C.refuses("it is live, on another piste", p, () -> p.start(0, 1));
        C.refuses("its left one is in a live bout", p, () -> p.start(1, 1));
        C.refuses("its left one is the right one of a live bout", p, () -> p.start(2, 1));
        Scene.hits(p, 0, 1, 5);
        C.refuses("it is over", p, () -> p.start(0, 0));
        p.pass(119);
        C.refuses("not rested", p, () -> p.start(1, 0));
        p.pass(1);
        p.start(1, 0);
        p.card(0, 0, 2);
        p.pass(600);
        C.refuses("it is void", p, () -> p.start(1, 0));
        Pommel t = Scene.table(4);
        C.refuses("none is known", t, () -> t.start(8, 0));
        Pommel bye = Scene.table(3);
        C.refuses("one is not known", bye, () -> bye.start(5, 0));
        C.refuses("there is no other one", bye, () -> bye.start(3, 0));
    }

    private static void taken() {
        C.says("or a BOUT is LIVE on that PISTE");
        for (int piste = 0; piste < 3; piste++) {
            int on = piste;
            Pommel p = Scene.pool(4);
            p.start(0, piste);
            C.same("5 is ready", p.reason(5), 0);
            C.refuses("the piste is taken", p, () -> p.start(5, on));
            p.start(5, (piste + 1) % 3);
            C.same("another one is free", p.ofBout(5, 6), (piste + 1) % 3);
        }
        Pommel hit = Scene.pool(4);
        hit.start(0, 0);
        Scene.hits(hit, 0, 0, 5);
        hit.start(5, 0);
        C.same("free by a hit", hit.ofBout(5, 6), 0);
        Pommel time = Scene.pool(4);
        time.start(0, 0);
        time.pass(239);
        C.refuses("the last second", time, () -> time.start(5, 0));
        time.pass(1);
        time.start(5, 0);
        C.same("free by time", time.ofBout(5, 6), 0);
        Pommel black = Scene.pool(4);
        black.start(0, 0);
        black.card(0, 1, 2);
        black.start(5, 0);
        C.same("free by a black card", black.ofBout(5, 6), 0);
    }
}
