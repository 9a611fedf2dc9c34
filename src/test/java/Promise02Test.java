/** Promise 2: fencer. */
final class Promise02Test {
    public static void main(String[] args) {
        Check c = new Check("promise 2");
        Pommel p = new Pommel();
        c.same("fencer(0, 0)", p.fencer(0, 0), 0);
        c.same("fencer(99, 5)", p.fencer(99, 5), 1);
        c.same("rank", p.of(1, 0), 99);
        c.same("club", p.of(1, 1), 5);
        c.range("fencer(rank, 0)", p, n -> p.fencer(n, 0),
                -1, 100, Integer.MIN_VALUE, Integer.MAX_VALUE);
        c.range("fencer(0, club)", p, n -> p.fencer(0, n),
                -1, 6, Integer.MIN_VALUE, Integer.MAX_VALUE);
        for (int i = 2; i < 16; i++) {
            c.same("fencer", p.fencer(7, 3), i);
        }
        c.same("many(0)", p.many(0), 16);
        c.raises("the 17th", IllegalStateException.class, p, () -> p.fencer(7, 3));
        c.raises("the 17th, wrong rank", IllegalArgumentException.class, p, () -> p.fencer(100, 3));
        Pommel formed = Scene.pool(3);
        c.raises("formed", IllegalStateException.class, formed, () -> formed.fencer(7, 3));
        c.raises("formed, wrong club", IllegalArgumentException.class, formed,
                () -> formed.fencer(7, 6));
        c.end();
    }
}
