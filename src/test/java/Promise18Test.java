/** Promise 18: aheadWith. */
final class Promise18Test {
    private static final Check C = Check.ofPromise(18);

    public static void main(String[] args) {
        which();
        scores();
        asItComes();
        wrongOnes();
        C.end();
    }

    /** A pool of four, 0-1, 0-2, 0-3, 1-2, 1-3, 2-3, in which 2 beat 3 with 5 to 2. */
    private static Pommel scene() {
        Pommel p = Scene.pool(4);
        Scene.fence(p, 5, 5, 2);
        return p;
    }

    private static void which() {
        C.says("bout: a BOUT of a POOL that WAITS");
        Pommel p = scene();
        for (int bout = 0; bout < 5; bout++) {
            asks(p, bout, 5, 0, 0);
        }
        // Not ready, but it waits.
        p.pass(120);
        p.start(0, 0);
        asks(p, 1, 5, 0, 0);
        asks(p, 4, 5, 0, 0);
        Pommel pools = Scene.fencers(6);
        pools.form(2);
        // 0, 3, 4 are in the pool 0; 1, 2, 5 in the pool 1, with the bouts 3, 4, 5: 1-2, 1-5, 2-5.
        C.same("the last bout of the last pool", pools.ofBout(5, 1), 2);
        asks(pools, 5, 5, 0, 0);
        asks(pools, 5, 0, 5, 5);
    }

    private static void scores() {
        C.says("left: a SCORE of the LEFT one");
        Pommel p = scene();
        asks(p, 0, 5, 0, 0);
        asks(p, 0, 0, 5, 3);
        asks(p, 0, 1, 0, 1);
        asks(p, 0, 0, 1, 2);
        C.says("right: a SCORE of the RIGHT one");
        // 2 has 5 to 2: the same difference and the same hits, and 0 has the smaller rank.
        asks(p, 0, 5, 2, 0);
        asks(p, 0, 5, 3, 1);
        asks(p, 0, 5, 4, 1);
        asks(p, 0, 4, 1, 1);
        asks(p, 0, 4, 5, 2);
        // 0 loses by 3 like 3, with fewer hits, or with as many and the smaller rank.
        asks(p, 0, 1, 4, 3);
        asks(p, 0, 2, 5, 2);
        asks(p, 4, 0, 5, 3);
    }

    private static void asItComes() {
        C.says("Returns how many would be ahead of the LEFT one in the ORDER, if it was OVER with these"
                + " SCORES.");
        for (int left = 0; left <= 5; left++) {
            for (int right = 0; right <= 5; right++) {
                if (left == right) {
                    continue;
                }
                Pommel p = scene();
                long before = p.digest();
                int asked = p.aheadWith(4, left, right);
                C.same("nothing is changed", p.digest(), before);
                Scene.begin(p, 4);
                Scene.hits(p, 0, left > right ? 1 : 0, Math.min(left, right));
                Scene.hits(p, 0, left > right ? 0 : 1, Math.max(left, right));
                if (p.ofBout(4, 0) == 1) {
                    p.pass(180);
                }
                C.same("as it comes with " + left + " " + right, asked, p.order(1, 4));
            }
        }
        // One that is out stays behind.
        Pommel out = Scene.pool(4);
        out.start(0, 0);
        out.card(0, 0, 2);
        asks(out, 3, 0, 5, 2);
        asks(out, 5, 5, 0, 0);
    }

    private static void asks(Pommel p, int bout, int left, int right, int due) {
        long before = p.digest();
        C.same("aheadWith(" + bout + ", " + left + ", " + right + ")",
                p.aheadWith(bout, left, right), due);
        C.same("nothing is changed", p.digest(), before);
    }

    private static void wrongOnes() {
        C.says("Throws IndexOutOfBoundsException if there is no such BOUT");
        Pommel p = scene();
        C.noIndex("aheadWith(n, 5, 0)", p, n -> p.aheadWith(n, 5, 0), -1, 6, Scene.LEAST,
                Scene.MOST);
        C.noIndex("aheadWith(n, 6, 6)", p, n -> p.aheadWith(n, 6, 6), -1, 6);
        Pommel none = new Pommel();
        C.noIndex("of a new one", none, n -> none.aheadWith(n, 5, 0), 0);
        C.says("Throws IllegalArgumentException if left or right is not 0 to 5, or they are the same");
        C.illegal("left", p, n -> p.aheadWith(0, n, 0), -1, 6, Scene.LEAST, Scene.MOST);
        C.illegal("right", p, n -> p.aheadWith(0, 5, n), -1, 6, Scene.LEAST, Scene.MOST);
        C.illegal("the same", p, n -> p.aheadWith(0, n, n), 0, 1, 2, 3, 4, 5, 6, -1);
        C.illegal("over", p, n -> p.aheadWith(5, 3, n), -1, 3, 6);
        C.says("Throws IllegalStateException if it does not WAIT, or is of the TABLE");
        C.refuses("over", p, () -> p.aheadWith(5, 3, 2));
        Scene.begin(p, 0);
        C.refuses("live", p, () -> p.aheadWith(0, 3, 2));
        C.illegal("live", p, n -> p.aheadWith(0, n, 3), -1, 3, 6);
        p.card(0, 0, 2);
        C.refuses("void, was live", p, () -> p.aheadWith(0, 3, 2));
        C.refuses("void", p, () -> p.aheadWith(1, 3, 2));
        Pommel t = Scene.table(4);
        C.refuses("of the table, it waits", t, () -> t.aheadWith(6, 3, 2));
        C.refuses("of the table, not known", t, () -> t.aheadWith(8, 3, 2));
        C.illegal("of the table", t, n -> t.aheadWith(8, 3, n), -1, 3, 6);
        C.noIndex("behind the table", t, n -> t.aheadWith(n, 3, 2), 9);
        Scene.begin(t, 6);
        C.refuses("of the table, live", t, () -> t.aheadWith(6, 3, 2));
        Pommel bye = Scene.table(3);
        C.refuses("of the table, over", bye, () -> bye.aheadWith(3, 3, 2));
        C.refuses("of the table, one is known", bye, () -> bye.aheadWith(5, 3, 2));
    }
}
