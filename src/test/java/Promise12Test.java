/** Promise 12: many. */
final class Promise12Test {
    private static final Check C = new Check("promise 12");

    public static void main(String[] args) {
        Pommel p = Scene.fencers(7);
        all(p, 7, 0, 0, 0, 0, 0, 0, 0, 0, 0, -1);
        p.form(2);
        all(p, 7, 2, 9, 9, 0, 0, 0, 0, 0, 0, -1);
        p.start(0, 0);
        p.start(8, 1);
        p.pass(10);
        all(p, 7, 2, 9, 7, 2, 0, 0, 10, 0, 0, -1);
        Scene.hits(p, 0, 0, 5);
        all(p, 7, 2, 9, 7, 1, 1, 0, 10, 0, 0, -1);
        p.card(1, 0, 2);
        int voids = p.many(6);
        all(p, 7, 2, 9, 9 - 1 - voids, 0, 1, voids, 10, 1, 0, -1);
        C.same("all bouts of one in its pool", voids, p.of(0, 2) == 1 ? 2 : 3);
        C.range("many", p, n -> p.many(n), -1, 11, Integer.MIN_VALUE, Integer.MAX_VALUE);
        Pommel t = Scene.table(3);
        all(t, 3, 1, 6, 2, 0, 4, 0, 900, 0, 4, -1);
        Scene.winInTable(t, 4, 1);
        all(t, 3, 1, 6, 1, 0, 5, 0, 1020, 0, 4, -1);
        Scene.begin(t, 5);
        t.card(0, 0, 2);
        all(t, 3, 1, 6, 0, 0, 6, 0, 1140, 1, 4, 2);
        C.same("a table of sixteen", Scene.fullTable().many(9), 16);
        C.same("its bouts", Scene.fullTable().many(2), 24 + 15);
        C.end();
    }

    private static void all(Pommel p, int... due) {
        for (int what = 0; what <= 10; what++) {
            C.same("many(" + what + ")", p.many(what), due[what]);
        }
    }
}
