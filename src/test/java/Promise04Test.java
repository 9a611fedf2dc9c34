/** Promise 4: of. */
final class Promise04Test {
    public static void main(String[] args) {
        Check c = new Check("promise 4");
        Pommel p = new Pommel();
        p.fencer(8, 3);
        p.fencer(5, 2);
        p.fencer(5, 4);
        c.same("pool before", p.of(0, 2), -1);
        c.same("spot before", p.of(0, 3), -1);
        p.form(1);
        c.same("rank", p.of(0, 0), 8);
        c.same("club", p.of(0, 1), 3);
        c.same("pool", p.of(0, 2), 0);
        c.same("spot", p.of(0, 3), 2);
        c.same("spot", p.of(1, 3), 0);
        c.same("spot", p.of(2, 3), 1);
        c.same("rest before", p.of(1, 6), 0);
        p.start(2, 2);
        c.same("live bout of the left", p.of(2, 5), 2);
        c.same("live bout of the right", p.of(0, 5), 2);
        c.same("no live bout", p.of(1, 5), -1);
        Scene.hits(p, 2, 0, 5);
        c.same("no live bout any more", p.of(2, 5), -1);
        c.same("ended at 0", p.of(2, 6), 120);
        c.same("never", p.of(1, 6), 0);
        p.pass(130);
        p.start(0, 0);
        p.hit(0, 0);
        p.pass(600);
        c.same("ended by time, with its own last second", p.of(1, 6), 130 + 180 + 120);
        c.same("not out", p.of(0, 4), 0);
        p.start(1, 0);
        p.pass(7);
        p.card(0, 1, 2);
        c.same("out", p.of(0, 4), 1);
        c.same("the other one is not", p.of(1, 4), 0);
        c.same("void ended now", p.of(0, 6), 737 + 120);
        c.same("void ended now for the other one", p.of(1, 6), 737 + 120);
        c.same("that of a void one that was over stays", p.of(2, 6), 430);
        c.noIndex("of(n, 0)", p, n -> p.of(n, 0), -1, 3, Integer.MIN_VALUE, Integer.MAX_VALUE);
        c.noIndex("of(n, 7)", p, n -> p.of(n, 7), -1, 3);
        c.range("of(0, n)", p, n -> p.of(0, n), -1, 7, Integer.MIN_VALUE, Integer.MAX_VALUE);
        c.end();
    }
}
