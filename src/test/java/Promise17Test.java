/** Promise 17: meanScore. */
final class Promise17Test {
    public static void main(String[] args) {
        Check c = new Check("promise 17");
        Pommel p = Scene.pool(4);
        c.same("without any", p.meanScore(), 0.0);
        p.start(0, 0);
        Scene.hits(p, 0, 0, 4);
        c.same("live", p.meanScore(), 0.0);
        p.hit(0, 0);
        c.same("not cut", p.meanScore(), 2.5);
        Scene.fence(p, 5, 5, 3);
        c.same("of two", p.meanScore(), 13 / 4.0);
        Scene.begin(p, 1);
        p.pass(240);
        c.same("of three", p.meanScore(), 13 / 6.0);
        Scene.begin(p, 3);
        p.hit(0, 0);
        p.card(0, 0, 2);
        c.same("void ones do not count", p.meanScore(), 8 / 4.0);
        Pommel t = Scene.table(3);
        c.same("those without two do not count", t.meanScore(), 3 / 6.0);
        Scene.begin(t, 4);
        Scene.hits(t, 0, 1, 7);
        t.card(0, 1, 2);
        c.same("those of the table count", t.meanScore(), 10 / 8.0);
        c.end();
    }
}
