/** Promise 6: pass. */
final class Promise06Test {
    private static final Check C = new Check("promise 6");

    public static void main(String[] args) {
        wrongOnes();
        byTimeInPool();
        byPriorityInPool();
        threePeriods();
        several();
        C.end();
    }

    private static void wrongOnes() {
        Pommel p = new Pommel();
        C.range("pass", p, n -> p.pass(n), 0, -1, 601, Integer.MIN_VALUE, Integer.MAX_VALUE);
        C.same("pass(1)", p.pass(1), 0);
        C.same("pass(600)", p.pass(600), 0);
        C.same("now", p.many(7), 601);
    }

    private static void byTimeInPool() {
        Pommel p = Scene.pool(3);
        p.start(0, 0);
        p.hit(0, 1);
        C.same("pass(179)", p.pass(179), 0);
        C.same("a second is left", p.ofBout(0, 7), 1);
        C.same("period", p.ofBout(0, 8), 1);
        C.same("the last second", p.pass(1), 1);
        C.same("over", p.ofBout(0, 0), 2);
        C.same("winner", p.ofBout(0, 5), 1);
        C.same("seconds", p.ofBout(0, 7), 0);
        C.same("nothing is live", p.pass(600), 0);
        p.start(1, 0);
        p.hit(0, 0);
        C.same("more time", p.pass(600), 1);
        C.same("ended with its own second", p.of(0, 6), 780 + 180 + 120);
        C.same("now", p.many(7), 1380);
        p.start(2, 0);
        C.same("the piste is free", p.ofBout(2, 0), 1);
    }

    private static void byPriorityInPool() {
        Pommel p = Scene.pool(3);
        p.start(1, 0);
        p.hit(0, 2);
        C.same("pass(180)", p.pass(180), 0);
        C.same("extra minute", p.ofBout(1, 8), 2);
        C.same("seconds", p.ofBout(1, 7), 60);
        C.same("priority, 1 + 1 is even", p.ofBout(1, 9), 0);
        C.same("pass(59)", p.pass(59), 0);
        C.same("seconds", p.ofBout(1, 7), 1);
        C.same("pass(1)", p.pass(1), 1);
        C.same("winner", p.ofBout(1, 5), 0);
        C.same("scores", p.ofBout(1, 3) * 10 + p.ofBout(1, 4), 11);
        C.same("rest", p.of(0, 6), 360);
        p.pass(120);
        p.start(0, 0);
        p.hit(0, 2);
        C.same("both in one call", p.pass(600), 1);
        C.same("winner, 0 + 1 is odd", p.ofBout(0, 5), 1);
        C.same("rest", p.of(1, 6), 360 + 240 + 120);
        p.start(2, 0);
        C.same("pass(239)", p.pass(239), 0);
        C.same("seconds", p.ofBout(2, 7), 1);
        C.same("pass(1)", p.pass(1), 1);
        C.same("winner, 2 + 0 is even", p.ofBout(2, 5), 1);
    }

    private static void threePeriods() {
        Pommel p = Scene.table(3);
        // The bout 4 is that of the seeds 1 and 2.
        Scene.begin(p, 4);
        p.hit(0, 1);
        C.same("pass(180)", p.pass(180), 0);
        C.same("period", p.ofBout(4, 8), 2);
        C.same("seconds", p.ofBout(4, 7), 180);
        C.same("pass(200)", p.pass(200), 0);
        C.same("period", p.ofBout(4, 8), 3);
        C.same("seconds", p.ofBout(4, 7), 160);
        C.same("pass(159)", p.pass(159), 0);
        C.same("pass(1)", p.pass(1), 1);
        C.same("winner", p.ofBout(4, 5), 2);
        C.same("goes on", p.ofBout(5, 2), 2);
        Scene.begin(p, 5);
        C.same("pass(599)", p.pass(599), 0);
        C.same("extra minute", p.ofBout(5, 8), 4);
        C.same("seconds", p.ofBout(5, 7), 1);
        C.same("pass(5)", p.pass(5), 1);
        C.same("winner, 5 + 0 is odd", p.ofBout(5, 5), 2);
        C.same("of the table", p.many(10), 2);
    }

    private static void several() {
        Pommel p = Scene.pool(6);
        p.start(0, 0);
        p.pass(30);
        // The bout 8 is that of the spots 2 and 3.
        p.start(8, 1);
        p.pass(30);
        // The bout 14 is that of the spots 4 and 5.
        p.start(14, 2);
        p.hit(0, 0);
        p.hit(1, 0);
        p.hit(2, 0);
        C.same("pass(150) ends two", p.pass(150), 2);
        C.same("first", p.of(0, 6), 300);
        C.same("second", p.of(2, 6), 330);
        C.same("third is live", p.ofBout(14, 7), 30);
        C.same("pass(600) ends one", p.pass(600), 1);
        C.same("third", p.of(5, 6), 360);
    }
}
