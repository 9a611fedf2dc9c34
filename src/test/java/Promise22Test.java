/** Promise 22: digest. */
final class Promise22Test {
    private static final Check C = new Check("promise 22");

    public static void main(String[] args) {
        asks(new Pommel());
        asks(Scene.fencers(5));
        Pommel p = Scene.pool(3);
        asks(p);
        p.start(0, 0);
        p.card(0, 0, 0);
        p.pass(181);
        asks(p);
        p.card(0, 0, 2);
        asks(p);
        Pommel t = Scene.table(5);
        asks(t);
        Scene.winInTable(t, 11, 1);
        asks(t);
        asks(Scene.fullTable());
        C.end();
    }

    private static void asks(Pommel p) {
        long d = 58101;
        for (int what = 0; what <= 10; what++) {
            d = d * 31 + p.many(what);
        }
        for (int fencer = 0; fencer < p.many(0); fencer++) {
            for (int what = 0; what <= 6; what++) {
                d = d * 31 + p.of(fencer, what);
            }
            for (int what = 0; what <= 4; what++) {
                d = d * 31 + p.order(fencer, what);
            }
            d = d * 31 + p.place(fencer);
            d = d * 31 + p.voidWith(fencer);
        }
        for (int bout = 0; bout < p.many(2); bout++) {
            for (int what = 0; what <= 11; what++) {
                d = d * 31 + p.ofBout(bout, what);
            }
            d = d * 31 + p.reason(bout);
        }
        d = d * 31 + p.next();
        for (int line = 0; line < p.many(9); line++) {
            d = d * 31 + p.line(line);
        }
        C.same("digest()", p.digest(), d);
        C.same("digest() again", p.digest(), d);
    }
}
