/** Terms 5: the rounds of the table. */
final class Terms5RoundsTest {
    private static final Check C = Check.ofLines("Terms 5", "BOUTS of the TABLE are numbered");

    public static void main(String[] args) {
        numbers();
        sides();
        withoutOther();
        halves();
        winners();
        C.end();
    }

    private static void numbers() {
        C.says("BOUTS of the TABLE are numbered behind those of the POOLS, round by round:");
        int[] inRound = {8, 4, 2, 1};
        Pommel p = Scene.table(16);
        C.same("bouts", p.many(2), 120 + 15);
        C.noIndex("no bout behind the last one", p, n -> p.reason(n), 135);
        C.same("one of the pool", p.ofBout(119, 0), 2);
        int bout = 120;
        for (int round = 0; round < 4; round++) {
            for (int i = 0; i < inRound[round]; i++) {
                C.same("is known", p.ofBout(bout, 1) >= 0 ? 1 : 0, round == 0 ? 1 : 0);
                C.same("waits", p.ofBout(bout, 0), 0);
                bout++;
            }
        }
        C.same("that is all", bout, p.many(2));
    }

    private static void sides() {
        C.says("in the round 0 SIZE / 2, one for each two LINES beside each other, the LEFT one with"
                + " the SEED of the first one, the RIGHT one with that of the second one;");
        int[] lefts = {0, 7, 3, 4, 1, 6, 2, 5};
        Pommel full = Scene.fullTable();
        for (int i = 0; i < 8; i++) {
            C.same("left", full.ofBout(24 + i, 1), lefts[i]);
            C.same("right", full.ofBout(24 + i, 2), 15 - lefts[i]);
        }
        Pommel eight = Scene.table(8);
        int[] ofEight = {0, 7, 3, 4, 1, 6, 2, 5};
        for (int i = 0; i < 4; i++) {
            C.same("left", eight.ofBout(28 + i, 1), ofEight[2 * i]);
            C.same("right", eight.ofBout(28 + i, 2), ofEight[2 * i + 1]);
        }
        Pommel two = Scene.fenced(3);
        two.draw(50);
        C.same("left of two", two.ofBout(3, 1), 0);
        C.same("right of two", two.ofBout(3, 2), 1);
        C.same("it is the only one", two.many(2), 4);
    }

    private static void withoutOther() {
        C.says("if there is no such SEED, the other one wins at once: the BOUT is OVER, with SCORES"
                + " of 0.");
        for (int count : new int[] {3, 5, 6, 7, 9, 15}) {
            Pommel p = Scene.table(count);
            int size = p.many(9);
            int first = count * (count - 1) / 2;
            for (int i = 0; i < size / 2; i++) {
                boolean alone = p.line(2 * i + 1) < 0;
                C.same("over", p.ofBout(first + i, 0), alone ? 2 : 0);
                C.same("winner", p.ofBout(first + i, 5), alone ? p.line(2 * i) : -1);
                C.same("there is none", p.ofBout(first + i, 2), p.line(2 * i + 1));
                C.same("scores", p.ofBout(first + i, 3) + p.ofBout(first + i, 4), 0);
                C.same("goes on", p.ofBout(first + size / 2 + i / 2, 1 + i % 2),
                        alone ? p.line(2 * i) : -1);
            }
            C.same("so many", p.many(5), first + size - count);
        }
        Pommel p = Scene.table(3);
        C.same("it is not met in the order", p.order(0, 0), 2);
        C.same("nor counted in the mean", p.meanScore(), 3 / 6.0);
        C.same("nor does it rest", p.of(0, 6), 600);
        C.refuses("nor does it start", p, () -> p.start(3, 0));
    }

    private static void halves() {
        C.says("In each round behind there are half as many;");
        int[][] due = {{3, 4, 3}, {4, 4, 3}, {5, 8, 7}, {8, 8, 7}, {9, 16, 15}, {16, 16, 15}};
        for (int[] row : due) {
            Pommel p = Scene.fenced(row[0]);
            int before = p.many(2);
            p.draw(0);
            C.same("size of " + row[0], p.many(9), row[1]);
            C.same("bouts of " + row[0], p.many(2) - before, row[2]);
        }
        Pommel two = Scene.fenced(3);
        two.draw(50);
        C.same("one of two, and none behind", two.many(2), 4);
    }

    private static void winners() {
        C.says("who wins the BOUT i of a round (from 0) is in the BOUT i / 2 of the next one, LEFT if"
                + " i is even, otherwise RIGHT.");
        Pommel p = Scene.fullTable();
        p.pass(120);
        int[] firsts = {24, 32, 36, 38};
        for (int round = 0; round < 3; round++) {
            for (int bout = firsts[round]; bout < firsts[round + 1]; bout++) {
                int i = bout - firsts[round];
                int next = firsts[round + 1] + i / 2;
                int side = i % 2 == 0 ? 1 : 2;
                C.same("not known yet", p.ofBout(next, side), -1);
                p.start(bout, 0);
                p.hit(0, bout % 3 == 0 ? 0 : 1);
                p.pass(600);
                p.pass(120);
                C.same("goes on", p.ofBout(next, side), p.ofBout(bout, bout % 3 == 0 ? 1 : 2));
            }
        }
        C.same("no winner yet", p.many(10), -1);
        Scene.hits(start(p, 38), 0, 1, 15);
        C.same("the winner of the last one", p.many(10), p.ofBout(38, 2));
        C.same("no bout behind", p.many(2), 39);
        // By a black card, by priority, and the later one of two bouts first.
        Pommel four = Scene.table(4);
        four.pass(120);
        start(four, 7).card(0, 0, 2);
        C.same("right", four.ofBout(8, 2), 2);
        C.same("left is not known", four.ofBout(8, 1), -1);
        start(four, 6).pass(600);
        C.same("left", four.ofBout(8, 1), 0);
        Pommel two = Scene.fenced(3);
        two.draw(50);
        Scene.winInTable(two, 3, 1);
        C.same("the only bout is the last one", two.many(10), 1);
    }

    private static Pommel start(Pommel p, int bout) {
        p.start(bout, 0);
        return p;
    }
}
