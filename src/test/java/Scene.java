/** Tournaments as the tests want them. */
final class Scene {
    static final int LEAST = Integer.MIN_VALUE;
    static final int MOST = Integer.MAX_VALUE;

    private Scene() {
    }

    /** So many fencers, with their numbers as ranks, none formed yet. */
    static Pommel fencers(int count) {
        Pommel p = new Pommel();
        for (int i = 0; i < count; i++) {
            p.fencer(i, i % 6);
        }
        return p;
    }

    /** One pool, in which each fencer's spot is its number. */
    static Pommel pool(int count) {
        Pommel p = fencers(count);
        p.form(1);
        return p;
    }

    /** The number of the bout of these two spots in one pool of so many. */
    static int bout(int count, int one, int other) {
        int number = 0;
        for (int sum = 1; sum < one + other; sum++) {
            for (int smaller = 0; 2 * smaller < sum; smaller++) {
                number += sum - smaller < count ? 1 : 0;
            }
        }
        for (int smaller = 0; smaller < Math.min(one, other); smaller++) {
            number += one + other - smaller < count ? 1 : 0;
        }
        return number;
    }

    /** Starts a bout on the piste 0, when both have rested. */
    static void begin(Pommel p, int bout) {
        p.pass(120);
        p.start(bout, 0);
    }

    static void hits(Pommel p, int piste, int who, int times) {
        for (int i = 0; i < times; i++) {
            p.hit(piste, who);
        }
    }

    /** Fences a bout on the piste 0 to the end by hits: one of the scores is the goal. */
    static void fence(Pommel p, int bout, int left, int right) {
        begin(p, bout);
        hits(p, 0, left > right ? 1 : 0, Math.min(left, right));
        hits(p, 0, left > right ? 0 : 1, Math.max(left, right));
    }

    /** Fences all bouts of the pools, by time: the left one, with the smaller number, wins 1 to 0. */
    static void fencePools(Pommel p) {
        int bouts = p.many(2);
        for (int i = 0; i < bouts; i++) {
            p.start(i, 0);
            p.hit(0, 0);
            p.pass(300);
        }
    }

    /** One pool that is fenced, whose order is that of the numbers. */
    static Pommel fenced(int count) {
        Pommel p = pool(count);
        fencePools(p);
        return p;
    }

    /** A table of all of one pool, whose seeds are the numbers. */
    static Pommel table(int count) {
        Pommel p = fenced(count);
        p.draw(0);
        return p;
    }

    /** A table of sixteen out of four pools, whose seeds are the numbers; its bouts are 24 to 38. */
    static Pommel fullTable() {
        Pommel p = fencers(16);
        p.form(4);
        fencePools(p);
        p.draw(0);
        return p;
    }

    /** Two that are left of a pool of three, the table not drawn yet: 1, who won, and 2. */
    static Pommel twoLeft() {
        Pommel p = pool(3);
        p.start(0, 0);
        p.card(0, 0, 2);
        fence(p, 2, 5, 0);
        return p;
    }

    /** Fences a bout of the table to its goal on the piste 0. */
    static void winInTable(Pommel p, int bout, int who) {
        begin(p, bout);
        hits(p, 0, who, 15);
    }
}
