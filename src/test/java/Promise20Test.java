/** Promise 20: winnerIn. */
final class Promise20Test {
    private static final Check C = new Check("promise 20");

    public static void main(String[] args) {
        Pommel p = Scene.pool(3);
        wrongOnes(p);
        p.start(1, 1);
        asks(p, 1, 239, -1);
        asks(p, 1, 240, 2);
        asks(p, 1, 600, 2);
        p.hit(1, 2);
        asks(p, 1, 240, 0);
        p.hit(1, 1);
        asks(p, 1, 179, -1);
        asks(p, 1, 180, 2);
        p.hit(1, 0);
        p.pass(200);
        // In the extra minute, 1 + 2 is odd.
        asks(p, 1, 39, -1);
        asks(p, 1, 40, 2);
        Pommel t = Scene.table(3);
        Scene.begin(t, 4);
        asks(t, 0, 599, -1);
        asks(t, 0, 600, 1);
        t.hit(0, 1);
        asks(t, 0, 539, -1);
        asks(t, 0, 540, 2);
        t.pass(200);
        asks(t, 0, 339, -1);
        asks(t, 0, 340, 2);
        t.pass(300);
        asks(t, 0, 39, -1);
        asks(t, 0, 40, 2);
        C.end();
    }

    private static void asks(Pommel p, int piste, int seconds, int due) {
        long before = p.digest();
        C.same("winnerIn(" + piste + ", " + seconds + ")", p.winnerIn(piste, seconds), due);
        C.same("nothing is changed", p.digest(), before);
    }

    private static void wrongOnes(Pommel p) {
        C.range("winnerIn(n, 1)", p, n -> p.winnerIn(n, 1), -1, 3, Integer.MIN_VALUE,
                Integer.MAX_VALUE);
        C.range("winnerIn(0, n)", p, n -> p.winnerIn(0, n), -1, 0, 601, Integer.MIN_VALUE,
                Integer.MAX_VALUE);
        C.raises("nothing is live", IllegalStateException.class, p, () -> p.winnerIn(0, 1));
        C.raises("nothing is live", IllegalStateException.class, p, () -> p.winnerIn(2, 600));
    }
}
