/** Promise 16: place. */
final class Promise16Test {
    private static final Check C = new Check("promise 16");

    public static void main(String[] args) {
        Pommel before = new Pommel();
        before.fencer(7, 0);
        before.fencer(7, 0);
        before.fencer(2, 0);
        places(before, 2, 0, 1);
        byRounds();
        fourRounds();
        outOnes();
        Pommel p = Scene.pool(3);
        C.noIndex("place", p, n -> p.place(n), -1, 3, Integer.MIN_VALUE, Integer.MAX_VALUE);
        C.end();
    }

    private static void byRounds() {
        Pommel p = Scene.pool(6);
        Scene.fencePools(p);
        places(p, 0, 1, 2, 3, 4, 5);
        C.same("four of six", p.draw(34), 4);
        // The bouts are 0-3, 1-2, and the last one.
        places(p, 0, 1, 2, 3, 4, 5);
        Scene.winInTable(p, 15, 1);
        places(p, 1, 2, 3, 0, 4, 5);
        Scene.winInTable(p, 16, 1);
        places(p, 2, 3, 0, 1, 4, 5);
        // The last round: 3 and 2; who lost it is ahead of those of the first one.
        Scene.winInTable(p, 17, 0);
        places(p, 3, 2, 0, 1, 4, 5);
    }

    private static void fourRounds() {
        Pommel p = Scene.fullTable();
        for (int bout = 24; bout < 39; bout++) {
            p.pass(120);
            p.start(bout, 0);
            // Each bout is won by the one with the greater seed.
            p.hit(0, p.ofBout(bout, 1) > p.ofBout(bout, 2) ? 0 : 1);
            p.pass(600);
        }
        places(p, 15, 14, 12, 13, 8, 9, 10, 11, 0, 1, 2, 3, 4, 5, 6, 7);
    }

    private static void outOnes() {
        Pommel p = Scene.pool(6);
        Scene.fencePools(p);
        p.draw(34);
        Scene.winInTable(p, 15, 0);
        Scene.begin(p, 16);
        p.card(0, 0, 2);
        // 1 is out: behind those that are not in the table, too.
        places(p, 0, 2, 3, 4, 5, 1);
        Scene.begin(p, 17);
        p.card(0, 0, 2);
        // 0 is out in a later round, and ahead of 1 by the order.
        places(p, 2, 3, 4, 5, 0, 1);
        Pommel later = Scene.pool(6);
        Scene.fencePools(later);
        later.draw(34);
        Scene.begin(later, 15);
        later.card(0, 0, 2);
        Scene.winInTable(later, 16, 0);
        Scene.begin(later, 17);
        later.card(0, 1, 2);
        // Of those that are out the order counts alone, not the later round of 1.
        places(later, 3, 2, 4, 5, 0, 1);
        Pommel pool = Scene.pool(4);
        pool.start(0, 0);
        pool.card(0, 0, 2);
        places(pool, 1, 2, 3, 0);
    }

    private static void places(Pommel p, int... inPlaces) {
        for (int i = 0; i < inPlaces.length; i++) {
            C.same("place of " + inPlaces[i], p.place(inPlaces[i]), i);
        }
    }
}
