/** Promise 5: start. */
final class Promise05Test {
    private static final Check C = new Check("promise 5");

    public static void main(String[] args) {
        starts();
        wrongOnes();
        inTheTable();
        C.end();
    }

    private static void starts() {
        Pommel p = Scene.pool(6);
        p.start(0, 2);
        C.same("live", p.ofBout(0, 0), 1);
        C.same("piste", p.ofBout(0, 6), 2);
        C.same("seconds", p.ofBout(0, 7), 180);
        C.same("period", p.ofBout(0, 8), 1);
        C.same("many live", p.many(4), 1);
        C.raises("it is live", IllegalStateException.class, p, () -> p.start(0, 1));
        C.raises("its fencer is in a live bout", IllegalStateException.class, p,
                () -> p.start(1, 1));
        // The bout 8 is that of the spots 2 and 3.
        C.raises("the piste is taken", IllegalStateException.class, p, () -> p.start(8, 2));
        p.start(8, 1);
        C.same("live", p.ofBout(8, 0), 1);
        Scene.hits(p, 2, 1, 5);
        C.raises("it is over", IllegalStateException.class, p, () -> p.start(0, 2));
        p.pass(119);
        C.raises("not rested", IllegalStateException.class, p, () -> p.start(4, 2));
        p.pass(1);
        p.start(4, 2);
        C.same("rested", p.ofBout(4, 0), 1);
        p.card(2, 0, 2);
        C.raises("it is void", IllegalStateException.class, p, () -> p.start(1, 0));
    }

    private static void wrongOnes() {
        Pommel p = Scene.pool(3);
        C.noIndex("start(n, 0)", p, n -> p.start(n, 0), -1, 3, Integer.MIN_VALUE,
                Integer.MAX_VALUE);
        C.noIndex("start(n, 3)", p, n -> p.start(n, 3), -1, 3);
        p.start(0, 0);
        C.range("start(0, n)", p, n -> p.start(0, n), -1, 3, Integer.MIN_VALUE,
                Integer.MAX_VALUE);
        C.raises("start(0, 1)", IllegalStateException.class, p, () -> p.start(0, 1));
    }

    private static void inTheTable() {
        Pommel p = Scene.table(4);
        C.raises("not known", IllegalStateException.class, p, () -> p.start(8, 0));
        p.pass(120);
        p.start(6, 0);
        C.same("live", p.ofBout(6, 0), 1);
        C.same("seconds", p.ofBout(6, 7), 180);
    }
}
