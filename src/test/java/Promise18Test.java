/** Promise 18: aheadWith. */
final class Promise18Test {
    private static final Check C = new Check("promise 18");

    public static void main(String[] args) {
        Pommel p = Scene.pool(4);
        // 0-1, 0-2, 0-3, 1-2, 1-3, 2-3
        Scene.fence(p, 5, 5, 2);
        asks(p, 0, 5, 0, 0);
        asks(p, 0, 5, 3, 1);
        asks(p, 0, 4, 1, 1);
        asks(p, 0, 5, 2, 0);
        asks(p, 0, 4, 5, 2);
        // 0 loses by 3 like 3, with fewer hits or with as many, but the smaller rank.
        asks(p, 0, 1, 4, 3);
        asks(p, 0, 2, 5, 2);
        asks(p, 4, 0, 5, 3);
        asks(p, 4, 5, 0, 0);
        wrongOnes(p);
        Pommel once = Scene.pool(3);
        int asked = once.aheadWith(2, 0, 5);
        Scene.fence(once, 2, 0, 5);
        C.same("as it comes", once.order(1, 4), asked);
        C.end();
    }

    private static void asks(Pommel p, int bout, int left, int right, int due) {
        long before = p.digest();
        C.same("aheadWith(" + bout + ", " + left + ", " + right + ")",
                p.aheadWith(bout, left, right), due);
        C.same("nothing is changed", p.digest(), before);
    }

    private static void wrongOnes(Pommel p) {
        C.noIndex("aheadWith(n, 5, 0)", p, n -> p.aheadWith(n, 5, 0), -1, 6, Integer.MIN_VALUE,
                Integer.MAX_VALUE);
        C.noIndex("aheadWith(n, 6, 6)", p, n -> p.aheadWith(n, 6, 6), -1, 6);
        C.range("aheadWith(0, n, 0)", p, n -> p.aheadWith(0, n, 0), -1, 0, 6, Integer.MIN_VALUE,
                Integer.MAX_VALUE);
        C.range("aheadWith(0, 5, n)", p, n -> p.aheadWith(0, 5, n), -1, 5, 6, Integer.MIN_VALUE,
                Integer.MAX_VALUE);
        // The bout 5 is over.
        C.range("aheadWith(5, 3, n)", p, n -> p.aheadWith(5, 3, n), 3, 6);
        C.raises("over", IllegalStateException.class, p, () -> p.aheadWith(5, 3, 2));
        Scene.begin(p, 0);
        C.raises("live", IllegalStateException.class, p, () -> p.aheadWith(0, 3, 2));
        p.card(0, 0, 2);
        C.raises("void", IllegalStateException.class, p, () -> p.aheadWith(1, 3, 2));
        Pommel t = Scene.table(4);
        C.raises("of the table", IllegalStateException.class, t, () -> t.aheadWith(6, 3, 2));
        C.raises("not known", IllegalStateException.class, t, () -> t.aheadWith(8, 3, 2));
        C.range("aheadWith(8, 3, n)", t, n -> t.aheadWith(8, 3, n), 3, 6);
    }
}
