/** Promise 1: a new object. */
final class Promise01Test {
    private static final Check C = Check.ofPromise(1);

    public static void main(String[] args) {
        C.says("Creates a tournament without FENCERS.");
        Pommel p = new Pommel();
        for (int what = 0; what <= 9; what++) {
            C.same("many(" + what + ")", p.many(what), 0);
        }
        C.same("many(10)", p.many(10), -1);
        C.same("next()", p.next(), -1);
        C.same("meanScore()", p.meanScore(), 0.0);
        C.noIndex("of", p, n -> p.of(n, 0), 0, -1);
        C.noIndex("order", p, n -> p.order(n, 0), 0, -1);
        C.noIndex("place", p, n -> p.place(n), 0, -1);
        C.noIndex("voidWith", p, n -> p.voidWith(n), 0, -1);
        C.noIndex("meet", p, n -> p.meet(n, 1), 0, -1);
        C.noIndex("ofBout", p, n -> p.ofBout(n, 0), 0, -1);
        C.noIndex("reason", p, n -> p.reason(n), 0, -1);
        C.noIndex("start", p, n -> p.start(n, 0), 0, -1);
        C.noIndex("aheadWith", p, n -> p.aheadWith(n, 5, 0), 0, -1);
        C.noIndex("line", p, n -> p.line(n), 0, -1);
        for (int piste = 0; piste < 3; piste++) {
            int on = piste;
            C.refuses("hit", p, () -> p.hit(on, 0));
            C.refuses("card", p, () -> p.card(on, 0, 0));
            C.refuses("winnerIn", p, () -> p.winnerIn(on, 1));
        }
        C.refuses("form", p, () -> p.form(1));
        C.refuses("draw", p, () -> p.draw(0));
        long d = 58101;
        for (int v : new int[] {0, 0, 0, 0, 0, 0, 0, 0, 0, 0, -1, -1}) {
            d = d * 31 + v;
        }
        C.same("digest()", p.digest(), d);
        C.same("pass(600)", p.pass(600), 0);
        p.fencer(1, 1);
        C.same("another new one's many(0)", new Pommel().many(0), 0);
        C.same("another new one's many(7)", new Pommel().many(7), 0);
        C.end();
    }
}
