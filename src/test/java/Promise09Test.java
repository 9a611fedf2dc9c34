/** Promise 9: ofBout. */
final class Promise09Test {
    private static final Check C = new Check("promise 9");

    public static void main(String[] args) {
        Pommel p = Scene.pool(3);
        all(p, 0, 0, 0, 1, 0, 0, -1, -1, 0, 0, -1, 0, 0);
        p.start(0, 2);
        all(p, 0, 1, 0, 1, 0, 0, -1, 2, 180, 1, -1, 0, 0);
        p.hit(2, 2);
        p.card(2, 1, 0);
        p.pass(20);
        all(p, 0, 1, 0, 1, 1, 1, -1, 2, 160, 1, -1, 0, 1);
        p.pass(170);
        all(p, 0, 1, 0, 1, 1, 1, -1, 2, 50, 2, 1, 0, 1);
        p.pass(50);
        all(p, 0, 2, 0, 1, 1, 1, 1, -1, 0, 0, -1, 0, 1);
        p.pass(120);
        p.start(1, 1);
        p.card(1, 0, 1);
        p.card(1, 1, 2);
        all(p, 1, 3, 0, 2, 0, 1, -1, -1, 0, 0, -1, 2, 3);
        all(p, 2, 3, 1, 2, 0, 0, -1, -1, 0, 0, -1, 0, 0);
        all(p, 0, 2, 0, 1, 1, 1, 1, -1, 0, 0, -1, 0, 1);
        inTheTable();
        wrongOnes(p);
        C.end();
    }

    private static void inTheTable() {
        Pommel p = Scene.table(5);
        // Ten bouts of the pool; then 0 and none, 3 and 4, 1 and none, 2 and none.
        all(p, 10, 2, 0, -1, 0, 0, 0, -1, 0, 0, -1, 0, 0);
        all(p, 11, 0, 3, 4, 0, 0, -1, -1, 0, 0, -1, 0, 0);
        all(p, 12, 2, 1, -1, 0, 0, 1, -1, 0, 0, -1, 0, 0);
        all(p, 13, 2, 2, -1, 0, 0, 2, -1, 0, 0, -1, 0, 0);
        all(p, 14, 0, 0, -1, 0, 0, -1, -1, 0, 0, -1, 0, 0);
        all(p, 15, 0, 1, 2, 0, 0, -1, -1, 0, 0, -1, 0, 0);
        all(p, 16, 0, -1, -1, 0, 0, -1, -1, 0, 0, -1, 0, 0);
        C.same("bouts", p.many(2), 17);
        Scene.begin(p, 11);
        p.pass(400);
        all(p, 11, 1, 3, 4, 0, 0, -1, 0, 140, 3, -1, 0, 0);
        p.pass(141);
        all(p, 11, 1, 3, 4, 0, 0, -1, 0, 59, 4, 4, 0, 0);
        p.pass(60);
        all(p, 11, 2, 3, 4, 0, 0, 4, -1, 0, 0, -1, 0, 0);
        all(p, 14, 0, 0, 4, 0, 0, -1, -1, 0, 0, -1, 0, 0);
        Scene.winInTable(p, 15, 1);
        all(p, 15, 2, 1, 2, 0, 15, 2, -1, 0, 0, -1, 0, 0);
        all(p, 16, 0, -1, 2, 0, 0, -1, -1, 0, 0, -1, 0, 0);
    }

    private static void wrongOnes(Pommel p) {
        C.noIndex("ofBout(n, 0)", p, n -> p.ofBout(n, 0), -1, 3, Integer.MIN_VALUE,
                Integer.MAX_VALUE);
        C.noIndex("ofBout(n, 12)", p, n -> p.ofBout(n, 12), -1, 3);
        C.range("ofBout(0, n)", p, n -> p.ofBout(0, n), -1, 12, Integer.MIN_VALUE,
                Integer.MAX_VALUE);
    }

    private static void all(Pommel p, int bout, int... due) {
        for (int what = 0; what <= 11; what++) {
            C.same("ofBout(" + bout + ", " + what + ")", p.ofBout(bout, what), due[what]);
        }
    }
}
