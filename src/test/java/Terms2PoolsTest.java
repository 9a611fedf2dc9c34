/** Terms 2: who is in which pool. */
final class Terms2PoolsTest {
    private static final Check C = Check.ofLines("Terms 2", "2 POOLS are formed once");

    public static void main(String[] args) {
        once();
        howMany();
        rows();
        byRanks();
        toAndFro();
        byClubs();
        spots();
        C.end();
    }

    private static void once() {
        C.says("2 POOLS are formed once:");
        Pommel p = Scene.fencers(11);
        C.refuses("too many pools", p, () -> p.form(4));
        C.same("none is formed by that", p.many(1), 0);
        C.same("form(3)", p.form(3), 15);
        for (int pools = 1; pools <= 4; pools++) {
            int again = pools;
            C.refuses("form(" + pools + ") again", p, () -> p.form(again));
        }
        C.same("many(1)", p.many(1), 3);
        Pommel over = Scene.table(3);
        C.refuses("behind the table", over, () -> over.form(1));
    }

    private static void howMany() {
        C.says("1 to 4, numbered from 0,");
        for (int pools = 1; pools <= 4; pools++) {
            Pommel p = Scene.fencers(16);
            C.same("no pool yet", p.of(15, 2), -1);
            C.illegal("form", p, n -> p.form(n), 0, 5, -1, Scene.LEAST, Scene.MOST);
            p.form(pools);
            C.same("many(1)", p.many(1), pools);
            for (int i = 0; i < pools; i++) {
                C.same("pool of the first row", p.of(i, 2), i);
            }
        }
        C.says("with 3 FENCERS at least for each.");
        for (int pools = 1; pools <= 4; pools++) {
            int asked = pools;
            Pommel few = Scene.fencers(3 * pools - 1);
            C.refuses("form(" + pools + ") of one too few", few, () -> few.form(asked));
            Pommel enough = Scene.fencers(3 * pools);
            C.same("three bouts for each", enough.form(pools), 3 * pools);
        }
        Pommel none = new Pommel();
        C.refuses("form(1) of none", none, () -> none.form(1));
    }

    private static void rows() {
        C.says("The FENCERS come row by row, as many in a row as there are POOLS,");
        int[][] cases = {{3, 1}, {16, 1}, {6, 2}, {7, 2}, {16, 2}, {9, 3}, {10, 3}, {11, 3}, {16, 3},
            {12, 4}, {13, 4}, {15, 4}, {16, 4}};
        for (int[] row : cases) {
            Pommel p = Scene.fencers(row[0]);
            p.form(row[1]);
            for (int i = 0; i < row[0]; i++) {
                C.same("spot of " + i + " in " + row[1] + " pools", p.of(i, 3), i / row[1]);
            }
        }
    }

    private static void byRanks() {
        C.says("by RANKS, the smallest first, of several by numbers.");
        Pommel p = new Pommel();
        int[] ranks = {99, 50, 0, 50, 1, 0, 98, 99};
        for (int rank : ranks) {
            p.fencer(rank, 0);
        }
        p.form(1);
        int[] due = {6, 3, 0, 4, 2, 1, 5, 7};
        for (int i = 0; i < due.length; i++) {
            C.same("spot of " + i, p.of(i, 3), due[i]);
        }
        Pommel same = new Pommel();
        for (int i = 0; i < 16; i++) {
            same.fencer(42, 1);
        }
        same.form(1);
        for (int i = 0; i < 16; i++) {
            C.same("spot by number", same.of(i, 3), i);
        }
    }

    private static void toAndFro() {
        C.says("In each row (from 0) the POOLS are taken from the first to the last one, or, in rows"
                + " with an odd number, from the last to the first one;");
        // Without two of a club, and then with one club only, so that clubs turn nobody away.
        pools(2, new int[] {0, 1, 2, 3, 4, 5}, new int[] {0, 1, 1, 0, 0, 1});
        alone(2, 0, 1, 1, 0, 0, 1, 1);
        alone(2, 0, 1, 1, 0, 0, 1, 1, 0, 0);
        alone(3, 0, 1, 2, 2, 1, 0, 0, 1, 2, 2);
        alone(3, 0, 1, 2, 2, 1, 0, 0, 1, 2, 2, 1);
        alone(3, 0, 1, 2, 2, 1, 0, 0, 1, 2, 2, 1, 0, 0);
        alone(4, 0, 1, 2, 3, 3, 2, 1, 0, 0, 1, 2, 3, 3);
        alone(4, 0, 1, 2, 3, 3, 2, 1, 0, 0, 1, 2, 3, 3, 2, 1);
        alone(4, 0, 1, 2, 3, 3, 2, 1, 0, 0, 1, 2, 3, 3, 2, 1, 0);
        alone(1, 0, 0, 0);
    }

    private static void alone(int pools, int... due) {
        int[] clubs = new int[due.length];
        java.util.Arrays.fill(clubs, 5);
        pools(pools, clubs, due);
    }

    private static void byClubs() {
        C.says("each FENCER goes into the first one that is not yet taken in this row, and in which"
                + " nobody of its CLUB is;");
        // In row 1 the last pool has the club of the first one who comes, so the next one is taken.
        pools(2, new int[] {0, 1, 1, 2, 3, 4}, new int[] {0, 1, 0, 1, 0, 1});
        // In row 2 the first pool has the club, by the row 0 or by the row 1.
        pools(2, new int[] {0, 1, 2, 3, 0, 4}, new int[] {0, 1, 1, 0, 1, 0});
        pools(2, new int[] {0, 1, 2, 3, 3, 4}, new int[] {0, 1, 1, 0, 1, 0});
        // In row 1 two pools turn the first one away, and are taken by those who come then.
        pools(3, new int[] {0, 1, 1, 1, 3, 4, 5, 2, 2}, new int[] {0, 1, 2, 0, 2, 1, 0, 1, 2});
        pools(4, new int[] {0, 1, 2, 3, 3, 3, 0, 1, 5, 5, 4, 4},
                new int[] {0, 1, 2, 3, 2, 1, 3, 0, 0, 1, 2, 3});
        // The last row has one fencer only.
        pools(2, new int[] {0, 1, 2, 3, 4, 5, 5}, new int[] {0, 1, 1, 0, 0, 1, 0});
        C.says("or, if there is none, into the first one that is not yet taken.");
        // Only one is left, and one of the club is in it.
        pools(2, new int[] {0, 1, 2, 0, 3, 4}, new int[] {0, 1, 1, 0, 0, 1});
        // In the odd row the club is in both that are left: the last one is the first one there.
        pools(3, new int[] {0, 0, 1, 2, 0, 3, 4, 4, 5}, new int[] {0, 1, 2, 2, 1, 0, 0, 1, 2});
        // In row 2 the first pool is without the club, but is taken.
        pools(3, new int[] {0, 1, 1, 2, 3, 4, 5, 1, 5}, new int[] {0, 1, 2, 2, 1, 0, 0, 1, 2});
        // All of one club.
        pools(4, new int[] {3, 3, 3, 3, 3, 3, 3, 3, 3, 3, 3, 3},
                new int[] {0, 1, 2, 3, 3, 2, 1, 0, 0, 1, 2, 3});
    }

    /** Fencers of these clubs, whose ranks are all the same. */
    private static void pools(int pools, int[] clubs, int[] due) {
        Pommel p = new Pommel();
        for (int club : clubs) {
            p.fencer(7, club);
        }
        p.form(pools);
        for (int i = 0; i < clubs.length; i++) {
            C.same("pool of " + i + " of " + clubs.length, p.of(i, 2), due[i]);
        }
    }

    private static void spots() {
        C.says("Its SPOT is how many were in the POOL ahead of it.");
        Pommel p = Scene.fencers(13);
        C.same("no spot yet", p.of(12, 3), -1);
        p.form(4);
        int[] sizes = new int[4];
        for (int i = 0; i < 13; i++) {
            // They came in the order of their numbers, which are their ranks.
            int pool = p.of(i, 2);
            C.same("spot of " + i, p.of(i, 3), sizes[pool]++);
        }
        Pommel full = Scene.pool(16);
        C.same("the first one", full.of(0, 3), 0);
        C.same("the last one", full.of(15, 3), 15);
    }
}
