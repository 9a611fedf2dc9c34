/** Terms 4: the order. */
final class Terms4OrderTest {
    private static final Check C = Check.ofLines("Terms 4", "4 THE ORDER. ");

    public static void main(String[] args) {
        whatCounts();
        whatDoesNot();
        outOnes();
        shares();
        differences();
        given();
        ranksAndNumbers();
        C.end();
    }

    private static void whatCounts() {
        C.says("4 THE ORDER. Of the BOUTS of a FENCER in its POOL that are OVER: MET is how many they"
                + " are, WON how many it won, GIVEN its SCORES together, TAKEN those of the others.");
        Pommel p = Scene.fencers(3);
        sums(p, 0, 0, 0, 0, 0);
        p.form(1);
        sums(p, 0, 0, 0, 0, 0);
        Scene.fence(p, 0, 5, 3);
        sums(p, 0, 1, 1, 5, 3);
        sums(p, 1, 1, 0, 3, 5);
        Scene.fence(p, 1, 2, 5);
        sums(p, 0, 2, 1, 7, 8);
        sums(p, 2, 1, 1, 5, 2);
        // By priority: 2 and 3 are odd, the right one wins with the same scores.
        Scene.begin(p, 2);
        Scene.hits(p, 0, 2, 3);
        p.pass(600);
        sums(p, 1, 2, 0, 6, 8);
        sums(p, 2, 2, 2, 8, 5);
        Pommel none = Scene.pool(3);
        none.start(0, 0);
        none.pass(600);
        // Without a hit: 0 and 0 are even, the left one wins.
        sums(none, 0, 1, 1, 0, 0);
        sums(none, 1, 1, 0, 0, 0);
        Pommel all = Scene.fenced(16);
        sums(all, 0, 15, 15, 15, 0);
        sums(all, 7, 15, 8, 8, 7);
        sums(all, 15, 15, 0, 0, 15);
    }

    private static void whatDoesNot() {
        Pommel p = Scene.pool(4);
        Scene.begin(p, 0);
        Scene.hits(p, 0, 0, 4);
        sums(p, 0, 0, 0, 0, 0);
        p.hit(0, 0);
        sums(p, 0, 1, 1, 5, 0);
        Scene.fence(p, 4, 5, 1);
        sums(p, 1, 2, 1, 5, 6);
        Scene.begin(p, 1);
        Scene.hits(p, 0, 1, 3);
        p.card(0, 0, 2);
        sums(p, 0, 0, 0, 0, 0);
        sums(p, 1, 1, 1, 5, 1);
        sums(p, 2, 0, 0, 0, 0);
        sums(p, 3, 1, 0, 1, 5);
        Pommel t = Scene.table(3);
        sums(t, 0, 2, 2, 2, 0);
        Scene.winInTable(t, 4, 1);
        sums(t, 1, 2, 1, 1, 1);
        sums(t, 2, 2, 0, 0, 2);
        Scene.begin(t, 5);
        t.card(0, 0, 2);
        sums(t, 0, 2, 2, 2, 0);
        sums(t, 2, 2, 0, 0, 2);
    }

    private static void outOnes() {
        C.says("Ahead is who is not OUT;");
        Pommel p = Scene.pool(4);
        Scene.fence(p, 5, 5, 0);
        Scene.fence(p, 0, 5, 0);
        order(p, 0, 2, 1, 3);
        Scene.begin(p, 1);
        p.card(0, 0, 2);
        order(p, 2, 1, 3, 0);
        Scene.begin(p, 3);
        p.card(0, 1, 2);
        order(p, 1, 3, 0, 2);
        // Out in the table, with all its bouts of the pool won.
        Pommel t = Scene.table(3);
        Scene.winInTable(t, 4, 0);
        Scene.begin(t, 5);
        order(t, 0, 1, 2);
        t.card(0, 0, 2);
        order(t, 1, 2, 0);
        // Of two that are out in the table what they did in the pool decides.
        Pommel two = Scene.table(4);
        Scene.begin(two, 6);
        two.card(0, 1, 2);
        Scene.begin(two, 7);
        two.card(0, 0, 2);
        order(two, 0, 2, 1, 3);
    }

    private static void shares() {
        C.says("then whose WON / MET is greater, not cut (0, if MET is 0);");
        Pommel p = Scene.pool(4);
        // 0 wins 1 of 3 with +3, 1 wins 1 of 2 with 0, 2 wins 1 of 1 with +1, 3 wins 1 of 2 with -4.
        Scene.fence(p, 0, 5, 0);
        Scene.fence(p, 1, 4, 5);
        Scene.fence(p, 2, 4, 5);
        Scene.fence(p, 4, 5, 0);
        order(p, 2, 1, 3, 0);
        // All of one, and all of two, are the same share: 3 has +2, 0 has +1.
        Pommel all = Scene.pool(4);
        Scene.fence(all, 0, 5, 4);
        Scene.fence(all, 4, 4, 5);
        Scene.fence(all, 5, 4, 5);
        order(all, 3, 0, 2, 1);
        // None of one by priority, with 1 to 1, is the share of those that met nobody, and is ahead
        // of these by its hit.
        Pommel none = Scene.pool(4);
        none.start(5, 0);
        none.hit(0, 2);
        none.pass(240);
        C.same("who had priority", none.ofBout(5, 5), 2);
        order(none, 2, 3, 0, 1);
        // None of one with a loss of hits is behind those that met nobody.
        Pommel behind = Scene.pool(4);
        Scene.fence(behind, 0, 4, 5);
        order(behind, 1, 2, 3, 0);
        // 1 of 2 with -4 is more than none of none.
        Pommel half = Scene.pool(4);
        Scene.fence(half, 0, 5, 4);
        Scene.fence(half, 1, 0, 5);
        order(half, 2, 0, 3, 1);
        // 1 of 1 without a hit, by priority, too.
        Pommel empty = Scene.pool(4);
        empty.start(1, 0);
        empty.pass(240);
        C.same("who had priority", empty.ofBout(1, 5), 2);
        order(empty, 2, 0, 1, 3);
        // 3 of 5 is more than 1 of 2.
        Pommel more = Scene.pool(6);
        int[] won = {0, 1, 1, 1, 0};
        for (int other = 0; other < 5; other++) {
            Scene.fence(more, Scene.bout(6, other, 5), won[other] == 1 ? 4 : 5, won[other] == 1 ? 5 : 0);
        }
        Scene.fence(more, Scene.bout(6, 0, 1), 0, 5);
        // 0 won 1 of 2 with 0, 1 won 1 of 2 with +4, 4 won 1 of 1; 5 won 3 of 5 with -7.
        C.same("1 of 1", more.order(4, 4), 0);
        C.same("3 of 5", more.order(5, 4), 1);
        C.same("1 of 2, with +4", more.order(1, 4), 2);
        C.same("1 of 2, with 0", more.order(0, 4), 3);
        closeShares();
    }

    /** 7 of 13 is more than 8 of 15, also if 53 of 100 is said of both; the difference of 0 is greater. */
    private static void closeShares() {
        Pommel p = Scene.pool(16);
        for (int other = 1; other <= 15; other++) {
            boolean wins = other >= 8;
            byTime(p, Scene.bout(16, 0, other), wins ? 2 : 0, wins ? 0 : 1);
        }
        for (int other = 1; other <= 12; other++) {
            boolean wins = other >= 6;
            byTime(p, Scene.bout(16, other, 15), wins ? 0 : 1, wins ? 1 : 0);
        }
        sums(p, 0, 15, 8, 16, 7);
        sums(p, 15, 13, 7, 7, 7);
        C.yes("7 of 13 is ahead of 8 of 15", p.order(15, 4) < p.order(0, 4));
    }

    private static void byTime(Pommel p, int bout, int left, int right) {
        p.start(bout, 0);
        Scene.hits(p, 0, 0, left);
        Scene.hits(p, 0, 1, right);
        p.pass(300);
    }

    private static void differences() {
        C.says("then whose GIVEN - TAKEN is;");
        Pommel p = Scene.pool(6);
        Scene.fence(p, Scene.bout(6, 0, 1), 2, 5);
        Scene.fence(p, Scene.bout(6, 2, 3), 5, 1);
        Scene.fence(p, Scene.bout(6, 4, 5), 3, 5);
        // Who won: 1 with +3, 2 with +4, 5 with +2; who lost: 0 with -3, 3 with -4, 4 with -2.
        order(p, 2, 1, 5, 4, 0, 3);
        Pommel less = Scene.pool(4);
        // More given, but a smaller difference: 5 to 4 and 2 to 0.
        Scene.fence(less, 0, 5, 4);
        Scene.begin(less, 5);
        Scene.hits(less, 0, 1, 2);
        less.pass(180);
        order(less, 3, 0, 1, 2);
    }

    private static void given() {
        C.says("then whose GIVEN is;");
        Pommel p = Scene.pool(4);
        p.start(0, 0);
        p.hit(0, 0);
        p.pass(180);
        p.start(5, 0);
        p.hit(0, 2);
        p.hit(0, 1);
        p.pass(180);
        // 0 and 3 won by one: 1 to 0 and 2 to 1; 1 and 2 lost by one.
        order(p, 3, 0, 2, 1);
    }

    private static void ranksAndNumbers() {
        C.says("then whose RANK is smaller;");
        Pommel p = new Pommel();
        int[] ranks = {99, 3, 50, 0, 2};
        for (int rank : ranks) {
            p.fencer(rank, 0);
        }
        order(p, 3, 4, 1, 2, 0);
        p.form(1);
        order(p, 3, 4, 1, 2, 0);
        // The spots are those of 3, 4, 1, 2, 0: the last two fence with 1 to 0, as do the first two.
        for (int bout : new int[] {Scene.bout(5, 0, 1), Scene.bout(5, 3, 4)}) {
            p.start(bout, 0);
            p.hit(0, 1);
            p.pass(180);
        }
        order(p, 4, 0, 1, 3, 2);
        C.says("then whose number is.");
        Pommel same = new Pommel();
        for (int i = 0; i < 16; i++) {
            same.fencer(99, 0);
        }
        for (int i = 0; i < 16; i++) {
            C.same("by number, not formed", same.order(i, 4), i);
        }
        same.form(4);
        for (int i = 0; i < 16; i++) {
            C.same("by number", same.order(i, 4), i);
        }
        // The same in two pools: the winners are 4 and 7, who are of the spot 1 of the pools 3 and 0.
        for (int pool : new int[] {3, 0}) {
            same.start(6 * pool, 0);
            same.hit(0, 1);
            same.pass(180);
        }
        C.same("the winner with the smaller number", same.order(4, 4), 0);
        C.same("the winner with the greater one", same.order(7, 4), 1);
        C.same("who lost, with the smaller number", same.order(0, 4), 14);
        C.same("who lost, with the greater one", same.order(3, 4), 15);
    }

    private static void order(Pommel p, int... inOrder) {
        for (int i = 0; i < inOrder.length; i++) {
            C.same("ahead of " + inOrder[i], p.order(inOrder[i], 4), i);
        }
    }

    private static void sums(Pommel p, int fencer, int... due) {
        for (int what = 0; what < 4; what++) {
            C.same("order(" + fencer + ", " + what + ")", p.order(fencer, what), due[what]);
        }
    }
}
