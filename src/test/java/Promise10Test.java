/** Promise 10: reason. */
final class Promise10Test {
    public static void main(String[] args) {
        Check c = new Check("promise 10");
        Pommel p = Scene.pool(4);
        c.same("ready", p.reason(0), 0);
        p.start(0, 0);
        c.same("live", p.reason(0), 1);
        c.same("the left one is live", p.reason(1), 3);
        c.same("both are live elsewhere or not", p.reason(5), 0);
        p.start(5, 1);
        c.same("the right one is live, too", p.reason(1), 3);
        Scene.hits(p, 0, 0, 5);
        c.same("over", p.reason(0), 1);
        c.same("live is named before rest", p.reason(1), 3);
        Scene.hits(p, 1, 0, 5);
        c.same("not rested", p.reason(1), 4);
        p.pass(119);
        c.same("not rested", p.reason(1), 4);
        p.pass(1);
        c.same("rested", p.reason(1), 0);
        p.start(1, 0);
        p.card(0, 1, 2);
        c.same("void", p.reason(1), 1);
        c.same("void", p.reason(3), 1);
        c.same("not rested, the left one alone", p.reason(2), 4);
        c.same("ready", p.reason(4), 0);
        c.noIndex("reason", p, n -> p.reason(n), -1, 6, Integer.MIN_VALUE, Integer.MAX_VALUE);
        Pommel t = Scene.table(3);
        t.pass(120);
        c.same("without another one", t.reason(3), 1);
        c.same("ready", t.reason(4), 0);
        c.same("the right one is not known", t.reason(5), 2);
        Pommel both = Scene.table(4);
        c.same("none is known", both.reason(8), 2);
        both.pass(120);
        both.start(6, 0);
        c.same("not known", both.reason(8), 2);
        Scene.hits(both, 0, 0, 15);
        c.same("one is known", both.reason(8), 2);
        both.start(7, 0);
        Scene.hits(both, 0, 0, 15);
        c.same("both are known, and have not rested", both.reason(8), 4);
        c.noIndex("reason without bouts", new Pommel(), n -> new Pommel().reason(n), 0);
        c.end();
    }
}
