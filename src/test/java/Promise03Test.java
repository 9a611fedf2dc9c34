/** Promise 3: form. */
final class Promise03Test {
    private static final Check C = new Check("promise 3");

    public static void main(String[] args) {
        counts();
        wrongOnes();
        rowsByRanks();
        clubs();
        boutsBySums();
        C.end();
    }

    private static void counts() {
        int[][] due = {{3, 1, 3}, {16, 1, 120}, {6, 2, 6}, {7, 2, 9}, {9, 3, 9}, {11, 3, 15},
            {12, 4, 12}, {13, 4, 15}, {16, 4, 24}};
        for (int[] row : due) {
            Pommel p = Scene.fencers(row[0]);
            C.same("form(" + row[1] + ") of " + row[0], p.form(row[1]), row[2]);
            C.same("many(1)", p.many(1), row[1]);
            C.same("many(2)", p.many(2), row[2]);
            C.same("many(3)", p.many(3), row[2]);
        }
    }

    private static void wrongOnes() {
        Pommel p = Scene.fencers(11);
        C.range("form", p, n -> p.form(n), 0, -1, 5, Integer.MIN_VALUE, Integer.MAX_VALUE);
        C.raises("form(4) of 11", IllegalStateException.class, p, () -> p.form(4));
        p.form(3);
        C.raises("form(3) again", IllegalStateException.class, p, () -> p.form(3));
        C.raises("form(5) again", IllegalArgumentException.class, p, () -> p.form(5));
        Pommel one = Scene.pool(6);
        C.raises("form(2) behind form(1)", IllegalStateException.class, one, () -> one.form(2));
        Pommel two = Scene.fencers(2);
        C.raises("form(1) of 2", IllegalStateException.class, two, () -> two.form(1));
        C.raises("form(0) of 2", IllegalArgumentException.class, two, () -> two.form(0));
    }

    private static void rowsByRanks() {
        Pommel p = new Pommel();
        int[] ranks = {50, 10, 40, 10, 99, 0, 40, 30};
        // The two of the clubs 1 and 2 come into two pools as it is.
        int[] clubs = {0, 1, 2, 3, 4, 5, 2, 1};
        for (int i = 0; i < ranks.length; i++) {
            p.fencer(ranks[i], clubs[i]);
        }
        p.form(2);
        // By ranks and numbers: 5 1 | 3 7 | 2 6 | 0 4; the odd rows from the last pool on.
        places(p, 5, 0, 0);
        places(p, 1, 1, 0);
        places(p, 3, 1, 1);
        places(p, 7, 0, 1);
        places(p, 2, 0, 2);
        places(p, 6, 1, 2);
        places(p, 0, 1, 3);
        places(p, 4, 0, 3);
        Pommel last = new Pommel();
        for (int i = 0; i < 11; i++) {
            last.fencer(50 + i, 1);
        }
        last.form(3);
        places(last, 9, 2, 3);
        places(last, 10, 1, 3);
    }

    private static void clubs() {
        Pommel p = new Pommel();
        int[] clubs = {0, 1, 2, 2, 0, 1, 3, 3, 3, 3};
        for (int i = 0; i < clubs.length; i++) {
            p.fencer(i, clubs[i]);
        }
        p.form(3);
        places(p, 3, 1, 1);
        places(p, 4, 2, 1);
        // Only the pool 0 is not yet taken in this row.
        places(p, 5, 0, 1);
        places(p, 6, 0, 2);
        places(p, 7, 1, 2);
        places(p, 8, 2, 2);
        // In each pool there is one of its club: the first one in this row, from the last.
        places(p, 9, 2, 3);
        Pommel same = new Pommel();
        for (int i = 0; i < 6; i++) {
            same.fencer(i, 4);
        }
        same.form(2);
        int[] pools = {0, 1, 1, 0, 0, 1};
        for (int i = 0; i < 6; i++) {
            places(same, i, pools[i], i / 2);
        }
    }

    private static void boutsBySums() {
        Pommel p = Scene.fencers(10);
        p.form(2);
        int[][] spots = {{0, 1}, {0, 2}, {0, 3}, {1, 2}, {0, 4}, {1, 3}, {1, 4}, {2, 3}, {2, 4},
            {3, 4}};
        for (int bout = 0; bout < 20; bout++) {
            for (int who = 0; who < 2; who++) {
                int fencer = p.ofBout(bout, 1 + who);
                C.same("pool in " + bout, p.of(fencer, 2), bout / 10);
                C.same("spot in " + bout, p.of(fencer, 3), spots[bout % 10][who]);
            }
        }
    }

    private static void places(Pommel p, int fencer, int pool, int spot) {
        C.same("pool of " + fencer, p.of(fencer, 2), pool);
        C.same("spot of " + fencer, p.of(fencer, 3), spot);
    }
}
