/** Promise 17: meanScore. */
final class Promise17Test {
    private static final Check C = Check.ofPromise(17);

    public static void main(String[] args) {
        C.says("Returns the mean SCORE in all BOUTS that are OVER,");
        Pommel p = Scene.pool(4);
        p.start(0, 0);
        Scene.hits(p, 0, 0, 4);
        C.same("live", p.meanScore(), 0.0);
        p.hit(0, 0);
        C.same("over", p.meanScore(), 5 / 2.0);
        Scene.fence(p, 5, 5, 3);
        C.same("two", p.meanScore(), 13 / 4.0);
        Scene.begin(p, 1);
        p.pass(240);
        C.same("one without a hit", p.meanScore(), 13 / 6.0);
        Scene.begin(p, 3);
        p.hit(0, 0);
        C.same("live", p.meanScore(), 13 / 6.0);
        p.card(0, 0, 2);
        C.same("void ones do not count, those that were over neither", p.meanScore(), 8 / 4.0);
        C.says("but those without two FENCERS:");
        Pommel t = Scene.table(3);
        C.same("three of the pool, of four that are over", t.meanScore(), 3 / 6.0);
        C.same("seven of eight lines are empty by pairs", Scene.table(9).meanScore(), 36 / 72.0);
        C.says("all SCORES, divided by 2 for each BOUT, not cut;");
        Scene.begin(t, 4);
        Scene.hits(t, 0, 1, 7);
        Scene.hits(t, 0, 0, 3);
        t.card(0, 1, 2);
        C.same("with the table", t.meanScore(), 13 / 8.0);
        Pommel third = Scene.pool(3);
        Scene.fence(third, 0, 5, 0);
        Scene.fence(third, 1, 5, 0);
        Scene.fence(third, 2, 5, 1);
        C.same("16 by 6", third.meanScore(), 16 / 6.0);
        C.yes("not cut", third.meanScore() > 2.66 && third.meanScore() < 2.67);
        Pommel most = Scene.pool(3);
        Scene.fence(most, 0, 5, 4);
        C.same("the most in a pool", most.meanScore(), 4.5);
        Pommel least = Scene.pool(3);
        least.start(0, 0);
        least.pass(240);
        C.same("none in one that is over", least.meanScore(), 0.0);
        least.pass(120);
        least.start(1, 0);
        least.hit(0, 0);
        least.pass(180);
        C.same("one by four", least.meanScore(), 0.25);
        C.says("0 without any.");
        C.same("of a new one", new Pommel().meanScore(), 0.0);
        C.same("all wait", Scene.pool(3).meanScore(), 0.0);
        Pommel only = Scene.pool(3);
        Scene.fence(only, 0, 5, 4);
        Scene.begin(only, 1);
        only.card(0, 0, 2);
        C.same("the only one is void now", only.meanScore(), 0.0);
        C.end();
    }
}
