/** Promise 13: order. */
final class Promise13Test {
    private static final Check C = new Check("promise 13");

    public static void main(String[] args) {
        wrongOnes();
        sums();
        byRanksAndNumbers();
        byShares();
        byDifferenceAndGiven();
        outAndTable();
        C.end();
    }

    private static void wrongOnes() {
        Pommel p = Scene.pool(3);
        C.noIndex("order(n, 0)", p, n -> p.order(n, 0), -1, 3, Integer.MIN_VALUE,
                Integer.MAX_VALUE);
        C.noIndex("order(n, 5)", p, n -> p.order(n, 5), -1, 3);
        C.range("order(0, n)", p, n -> p.order(0, n), -1, 5, Integer.MIN_VALUE,
                Integer.MAX_VALUE);
    }

    private static void sums() {
        Pommel p = Scene.pool(3);
        Scene.fence(p, 0, 5, 3);
        Scene.fence(p, 1, 2, 5);
        all(p, 0, 2, 1, 7, 8);
        all(p, 1, 1, 0, 3, 5);
        all(p, 2, 1, 1, 5, 2);
        Scene.begin(p, 2);
        Scene.hits(p, 0, 2, 3);
        all(p, 1, 1, 0, 3, 5);
        p.pass(240);
        // 2 + 3 is odd: the right one wins by priority.
        all(p, 1, 2, 0, 6, 8);
        all(p, 2, 2, 2, 8, 5);
        ahead(p, 2, 0, 1);
    }

    private static void byRanksAndNumbers() {
        Pommel p = new Pommel();
        int[] ranks = {9, 3, 9, 0, 3};
        for (int rank : ranks) {
            p.fencer(rank, 0);
        }
        ahead(p, 3, 1, 4, 0, 2);
        p.form(1);
        ahead(p, 3, 1, 4, 0, 2);
    }

    private static void byShares() {
        Pommel p = Scene.pool(4);
        // 0-1, 0-2, 0-3, 1-2, 1-3, 2-3
        Scene.fence(p, 0, 5, 0);
        Scene.fence(p, 1, 5, 0);
        Scene.fence(p, 2, 4, 5);
        // 0 won 2 of 3 and 3 won 1 of 1; 1 and 2 won none of 1 with the same sums.
        ahead(p, 3, 0, 1, 2);
        Scene.fence(p, 5, 0, 5);
        Scene.fence(p, 3, 5, 4);
        // Now 3 won 2 of 2, 0 2 of 3, 1 1 of 2, 2 0 of 3.
        ahead(p, 3, 0, 1, 2);
        Scene.fence(p, 4, 5, 4);
        // 3, 0 and 1 won 2 of 3 each; their differences are +5, +9, -3.
        ahead(p, 0, 3, 1, 2);
        Pommel fresh = Scene.pool(4);
        Scene.fence(fresh, 0, 4, 5);
        // 2 and 3 met nobody: their share is that of 0, their difference is greater.
        ahead(fresh, 1, 2, 3, 0);
    }

    private static void byDifferenceAndGiven() {
        Pommel p = Scene.pool(6);
        // 0-1 is the bout 0, 2-3 the bout 8, 4-5 the bout 14.
        Scene.fence(p, 0, 2, 5);
        Scene.fence(p, 8, 5, 1);
        Scene.fence(p, 14, 3, 5);
        // Who won: 1 with +3, 2 with +4, 5 with +2; who lost: 0 -3, 3 -4, 4 -2.
        ahead(p, 2, 1, 5, 4, 0, 3);
        Pommel g = Scene.pool(4);
        g.start(0, 0);
        g.hit(0, 0);
        g.pass(180);
        g.start(5, 0);
        g.hit(0, 2);
        g.hit(0, 1);
        g.pass(180);
        // 0 and 3 won by 1: 1 to 0 and 2 to 1; 1 and 2 lost by 1.
        ahead(g, 3, 0, 2, 1);
    }

    private static void outAndTable() {
        Pommel p = Scene.pool(4);
        Scene.fence(p, 5, 5, 0);
        Scene.begin(p, 0);
        p.card(0, 0, 2);
        all(p, 0, 0, 0, 0, 0);
        // 2 won; 1 met nobody; 3 lost; 0 is out.
        ahead(p, 2, 1, 3, 0);
        Pommel t = Scene.table(3);
        ahead(t, 0, 1, 2);
        Scene.winInTable(t, 4, 1);
        // What is in the table does not count in the order.
        ahead(t, 0, 1, 2);
        all(t, 2, 2, 0, 0, 2);
        Scene.begin(t, 5);
        t.card(0, 0, 2);
        ahead(t, 1, 2, 0);
        all(t, 0, 2, 2, 2, 0);
    }

    private static void ahead(Pommel p, int... inOrder) {
        for (int i = 0; i < inOrder.length; i++) {
            C.same("ahead of " + inOrder[i], p.order(inOrder[i], 4), i);
        }
    }

    private static void all(Pommel p, int fencer, int... due) {
        for (int what = 0; what < 4; what++) {
            C.same("order(" + fencer + ", " + what + ")", p.order(fencer, what), due[what]);
        }
    }
}
