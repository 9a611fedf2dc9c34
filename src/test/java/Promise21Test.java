/** Promise 21: voidWith. */
final class Promise21Test {
    public static void main(String[] args) {
        Check c = new Check("promise 21");
        Pommel p = Scene.pool(4);
        c.same("none", p.voidWith(0), 0);
        Scene.fence(p, 0, 5, 1);
        Scene.fence(p, 1, 5, 1);
        c.same("two are over", p.voidWith(0), 2);
        c.same("one is over", p.voidWith(1), 1);
        Scene.begin(p, 5);
        c.same("a live one is not over", p.voidWith(3), 0);
        long before = p.digest();
        p.voidWith(2);
        c.same("nothing is changed", p.digest(), before);
        p.card(0, 0, 2);
        c.same("out", p.voidWith(2), 0);
        c.same("one is void", p.voidWith(0), 1);
        c.noIndex("voidWith", p, n -> p.voidWith(n), -1, 4, Integer.MIN_VALUE,
                Integer.MAX_VALUE);
        Pommel t = Scene.table(3);
        c.same("drawn", t.voidWith(1), 2);
        Scene.winInTable(t, 4, 0);
        c.same("the table does not count", t.voidWith(1), 2);
        Scene.begin(t, 5);
        t.card(0, 0, 2);
        c.same("out in the table", t.voidWith(0), 2);
        c.end();
    }
}
