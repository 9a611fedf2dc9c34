/** Promise 11: next. */
final class Promise11Test {
    public static void main(String[] args) {
        Check c = new Check("promise 11");
        Pommel p = Scene.pool(5);
        // The bouts are 0-1, 0-2, 0-3, 1-2, 0-4, 1-3, 1-4, 2-3, 2-4, 3-4.
        c.same("all the same", p.next(), 0);
        p.start(0, 0);
        c.same("without live ones", p.next(), 7);
        p.start(7, 1);
        c.same("none is ready", p.next(), -1);
        Scene.hits(p, 0, 0, 5);
        p.pass(50);
        Scene.hits(p, 1, 0, 5);
        c.same("none has rested", p.next(), -1);
        p.pass(69);
        c.same("none has rested", p.next(), -1);
        p.pass(1);
        c.same("0 and 1 have rested", p.next(), 4);
        p.pass(50);
        c.same("the greater rest is the smallest", p.next(), 4);
        p.start(4, 2);
        c.same("of 1, 2, 3", p.next(), 3);
        p.card(2, 0, 2);
        c.same("void ones are not", p.next(), 3);
        p.pass(600);
        c.same("the live ones of before are behind", p.next(), 3);
        p.start(3, 0);
        Scene.hits(p, 0, 1, 5);
        p.pass(300);
        c.same("3 and 4 ended before 1 and 2", p.next(), 9);
        Pommel t = Scene.table(3);
        c.same("of the table", t.next(), 4);
        Scene.winInTable(t, 4, 0);
        c.same("not rested", t.next(), -1);
        t.pass(120);
        c.same("the last one", t.next(), 5);
        Scene.winInTable(t, 5, 0);
        t.pass(120);
        c.same("none is left", t.next(), -1);
        c.same("without bouts", Scene.fencers(4).next(), -1);
        c.end();
    }
}
