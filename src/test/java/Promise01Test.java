/** Promise 1: a new object. */
final class Promise01Test {
    public static void main(String[] args) {
        Check c = new Check("promise 1");
        Pommel p = new Pommel();
        for (int what = 0; what <= 9; what++) {
            c.same("many(" + what + ")", p.many(what), 0);
        }
        c.same("many(10)", p.many(10), -1);
        c.same("next()", p.next(), -1);
        c.same("meanScore()", p.meanScore(), 0.0);
        c.noIndex("of", p, n -> p.of(n, 0), 0, -1);
        c.noIndex("ofBout", p, n -> p.ofBout(n, 0), 0, -1);
        c.noIndex("line", p, n -> p.line(n), 0, -1);
        long d = 58101;
        for (int v : new int[] {0, 0, 0, 0, 0, 0, 0, 0, 0, 0, -1, -1}) {
            d = d * 31 + v;
        }
        c.same("digest()", p.digest(), d);
        p.fencer(1, 1);
        c.same("another new one's many(0)", new Pommel().many(0), 0);
        c.end();
    }
}
