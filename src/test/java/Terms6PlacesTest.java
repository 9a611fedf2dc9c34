/** Terms 6: places. */
final class Terms6PlacesTest {
    private static final Check C = Check.ofLines("Terms 6", "6 PLACES, from 0: ");

    public static void main(String[] args) {
        inTheTable();
        byRounds();
        notLost();
        byTheOrder();
        outOnes();
        C.end();
    }

    private static void inTheTable() {
        C.says("6 PLACES, from 0: ahead is who is in the TABLE,");
        Pommel p = Scene.fenced(6);
        C.same("four of six", p.draw(34), 4);
        places(p, 0, 1, 2, 3, 4, 5);
        // 0 loses in the round 0, and is ahead of those that are not in it.
        Scene.winInTable(p, 15, 1);
        places(p, 1, 2, 3, 0, 4, 5);
    }

    private static void byRounds() {
        C.says("and lost there in a later round");
        Pommel p = Scene.fenced(6);
        p.draw(34);
        Scene.winInTable(p, 15, 1);
        Scene.winInTable(p, 16, 1);
        places(p, 2, 3, 0, 1, 4, 5);
        // The round 1 is between 3 and 2: who loses it is ahead of those that lost in the round 0.
        Scene.winInTable(p, 17, 0);
        places(p, 3, 2, 0, 1, 4, 5);
        Pommel full = Scene.fullTable();
        for (int bout = 24; bout < 39; bout++) {
            full.pass(120);
            full.start(bout, 0);
            // Each bout is won by the one with the greater seed.
            full.hit(0, full.ofBout(bout, 1) > full.ofBout(bout, 2) ? 0 : 1);
            full.pass(600);
        }
        places(full, 15, 14, 12, 13, 8, 9, 10, 11, 0, 1, 2, 3, 4, 5, 6, 7);
    }

    private static void notLost() {
        C.says("(or won the last one, or has not lost yet: ahead of all those);");
        Pommel p = Scene.table(4);
        // 3 has won its first bout, 1 and 2 have not fenced: none has lost yet but 0.
        Scene.winInTable(p, 6, 1);
        places(p, 1, 2, 3, 0);
        Scene.winInTable(p, 7, 1);
        places(p, 2, 3, 0, 1);
        Scene.winInTable(p, 8, 1);
        places(p, 2, 3, 0, 1);
        C.same("it won the last one", p.many(10), 2);
        Pommel other = Scene.table(4);
        Scene.winInTable(other, 6, 1);
        Scene.winInTable(other, 7, 1);
        Scene.winInTable(other, 8, 0);
        places(other, 3, 2, 0, 1);
        Pommel two = Scene.fenced(3);
        two.draw(50);
        Scene.winInTable(two, 3, 1);
        places(two, 1, 0, 2);
        // Three of four lines: 0 has not lost, without a bout.
        Pommel bye = Scene.table(3);
        Scene.winInTable(bye, 4, 1);
        places(bye, 0, 2, 1);
    }

    private static void byTheOrder() {
        C.says("then by the ORDER.");
        Pommel before = new Pommel();
        before.fencer(7, 0);
        before.fencer(7, 0);
        before.fencer(2, 0);
        places(before, 2, 0, 1);
        before.form(1);
        places(before, 2, 0, 1);
        // The spots are those of 2, 0, 1: 0 wins.
        Scene.fence(before, 0, 0, 5);
        places(before, 0, 1, 2);
        Pommel p = Scene.pool(6);
        for (int bout = 0; bout < 15; bout++) {
            p.start(bout, 0);
            p.hit(0, 1);
            p.pass(300);
        }
        places(p, 5, 4, 3, 2, 1, 0);
        p.draw(50);
        // Those that are not in the table, too.
        places(p, 5, 4, 3, 2, 1, 0);
    }

    private static void outOnes() {
        C.says("One that is OUT is behind all that are not;");
        Pommel p = Scene.fenced(6);
        p.draw(34);
        Scene.winInTable(p, 15, 0);
        Scene.begin(p, 16);
        p.card(0, 0, 2);
        // 1 is out: behind those that are not in the table, too.
        places(p, 0, 2, 3, 4, 5, 1);
        Pommel pool = Scene.pool(4);
        Scene.fence(pool, 0, 5, 0);
        places(pool, 0, 2, 3, 1);
        Scene.begin(pool, 1);
        pool.card(0, 0, 2);
        places(pool, 1, 2, 3, 0);
        C.says("of several that are the ORDER counts alone.");
        Scene.begin(p, 17);
        p.card(0, 0, 2);
        // 0 is out in a later round, and ahead of 1 by the order.
        places(p, 2, 3, 4, 5, 0, 1);
        Pommel later = Scene.fenced(6);
        later.draw(34);
        Scene.begin(later, 15);
        later.card(0, 0, 2);
        Scene.winInTable(later, 16, 0);
        Scene.begin(later, 17);
        later.card(0, 1, 2);
        // Not the later round of 1, nor that 5 was not in the table.
        places(later, 3, 2, 4, 5, 0, 1);
        Pommel pools = Scene.pool(6);
        pools.start(Scene.bout(6, 0, 1), 0);
        pools.card(0, 0, 2);
        pools.start(Scene.bout(6, 2, 3), 0);
        pools.card(0, 1, 2);
        places(pools, 1, 2, 4, 5, 0, 3);
        for (int bout = 0; bout < 15; bout++) {
            pools.pass(120);
            if (pools.reason(bout) == 0) {
                pools.start(bout, 0);
                pools.hit(0, 0);
                pools.pass(600);
            }
        }
        C.same("draw(0) of four", pools.draw(0), 4);
        // In the table 1 is out: its bouts of the pool put it ahead of those that are out of these.
        Scene.begin(pools, 15);
        pools.card(0, 0, 2);
        places(pools, 2, 4, 5, 1, 0, 3);
    }

    private static void places(Pommel p, int... inPlaces) {
        for (int i = 0; i < inPlaces.length; i++) {
            C.same("place of " + inPlaces[i], p.place(inPlaces[i]), i);
        }
    }
}
