/** Terms 2: the numbers of the bouts of the pools. */
final class Terms2BoutsTest {
    private static final Check C = Check.ofLines("Terms 2", "BOUTS are numbered from 0: POOL by POOL");

    public static void main(String[] args) {
        poolByPool();
        bySums();
        sides();
        C.end();
    }

    private static void poolByPool() {
        C.says("BOUTS are numbered from 0: POOL by POOL one for each two SPOTS,");
        Pommel none = Scene.fencers(3);
        C.noIndex("no bout yet", none, n -> none.ofBout(n, 0), -1, 0);
        // Seven in two pools: the one who comes in the odd row 3 is in the last pool.
        pools(7, 2, 3, 6);
        pools(8, 2, 6, 6);
        pools(9, 2, 10, 6);
        pools(10, 3, 3, 3, 6);
        pools(11, 3, 3, 6, 6);
        pools(13, 4, 3, 3, 3, 6);
        pools(16, 4, 6, 6, 6, 6);
        Pommel full = Scene.pool(16);
        C.same("many(2)", full.many(2), 120);
        C.same("the last bout", full.reason(119), 0);
        C.noIndex("reason", full, n -> full.reason(n), -1, 120);
    }

    /** So many bouts in each pool. */
    private static void pools(int fencers, int pools, int... due) {
        Pommel p = new Pommel();
        for (int i = 0; i < fencers; i++) {
            p.fencer(0, 0);
        }
        p.form(pools);
        int bout = 0;
        for (int pool = 0; pool < pools; pool++) {
            for (int i = 0; i < due[pool]; i++) {
                C.same("pool of the left one in " + bout, p.of(p.ofBout(bout, 1), 2), pool);
                C.same("pool of the right one in " + bout, p.of(p.ofBout(bout, 2), 2), pool);
                bout++;
            }
        }
        C.same("many(2)", p.many(2), bout);
    }

    private static void bySums() {
        C.says("by their sum, the smallest first, then by the smaller SPOT;");
        spots(3, 0, 1, 0, 2, 1, 2);
        spots(4, 0, 1, 0, 2, 0, 3, 1, 2, 1, 3, 2, 3);
        spots(5, 0, 1, 0, 2, 0, 3, 1, 2, 0, 4, 1, 3, 1, 4, 2, 3, 2, 4, 3, 4);
        spots(6, 0, 1, 0, 2, 0, 3, 1, 2, 0, 4, 1, 3, 0, 5, 1, 4, 2, 3, 1, 5, 2, 4, 2, 5, 3, 4, 3, 5,
                4, 5);
        Pommel full = Scene.pool(16);
        int sumBefore = 0;
        int leftBefore = 0;
        for (int bout = 0; bout < 120; bout++) {
            int left = full.ofBout(bout, 1);
            int sum = left + full.ofBout(bout, 2);
            C.yes("behind the one before: " + bout,
                    sum > sumBefore || sum == sumBefore && left > leftBefore);
            sumBefore = sum;
            leftBefore = left;
        }
    }

    private static void spots(int count, int... due) {
        Pommel p = Scene.pool(count);
        for (int bout = 0; 2 * bout < due.length; bout++) {
            C.same("left spot of " + bout, p.ofBout(bout, 1), due[2 * bout]);
            C.same("right spot of " + bout, p.ofBout(bout, 2), due[2 * bout + 1]);
        }
    }

    private static void sides() {
        C.says("the FENCER with the smaller SPOT is its LEFT one, the other one the RIGHT one.");
        Pommel p = new Pommel();
        for (int i = 0; i < 5; i++) {
            // The greater number has the smaller spot.
            p.fencer(99 - i, 0);
        }
        p.form(1);
        for (int bout = 0; bout < 10; bout++) {
            int left = p.ofBout(bout, 1);
            int right = p.ofBout(bout, 2);
            C.yes("number in " + bout, left > right);
            C.yes("spot in " + bout, p.of(left, 3) < p.of(right, 3));
        }
    }
}
