/** Terms 3: cards. */
final class Terms3CardTest {
    private static final Check C = Check.ofLines("Terms 3", "CARDS: YELLOW (0)");

    public static void main(String[] args) {
        kinds();
        secondYellow();
        red();
        outForGood();
        blackInTable();
        blackInPool();
        endedNow();
        stays();
        C.end();
    }

    private static void kinds() {
        C.says("CARDS: YELLOW (0), RED (1), BLACK (2).");
        for (int kind = 0; kind <= 2; kind++) {
            for (int who = 0; who < 2; who++) {
                Pommel p = Scene.pool(3);
                p.start(0, 1);
                C.same("card", p.card(1, who, kind), kind);
                C.same("its own", p.ofBout(0, 10 + who), kind + 1);
                C.same("the other's", p.ofBout(0, 11 - who), 0);
            }
        }
        Pommel p = Scene.pool(3);
        p.start(0, 1);
        C.illegal("kind", p, n -> p.card(1, 0, n), -1, 3, Scene.LEAST, Scene.MOST);
    }

    private static void secondYellow() {
        C.says("A YELLOW one for a FENCER that has one already, of any kind, in this BOUT, is a RED"
                + " one.");
        Pommel p = Scene.pool(3);
        p.start(0, 1);
        C.same("first", p.card(1, 0, 0), 0);
        C.same("the other's first", p.card(1, 1, 0), 0);
        C.same("second", p.card(1, 0, 0), 1);
        C.same("third", p.card(1, 0, 0), 1);
        C.same("the other's second", p.card(1, 1, 0), 1);
        scores(p, 0, 1, 2);
        Scene.hits(p, 1, 1, 3);
        p.pass(120);
        p.start(1, 0);
        C.same("first in another bout", p.card(0, 0, 0), 0);
        C.same("red for one without any", p.card(0, 1, 1), 1);
        C.same("yellow behind red", p.card(0, 1, 0), 1);
        scores(p, 1, 2, 0);
        C.same("red behind red", p.card(0, 1, 1), 1);
        C.same("black behind red", p.card(0, 1, 2), 2);
        scores(p, 1, 3, 0);
    }

    private static void red() {
        C.says("With a RED one the other one has a HIT that counts.");
        for (int who = 0; who < 2; who++) {
            Pommel p = Scene.pool(3);
            p.start(0, 0);
            p.card(0, who, 0);
            scores(p, 0, 0, 0);
            p.card(0, who, 1);
            scores(p, 0, who, 1 - who);
            C.same("is live", p.ofBout(0, 0), 1);
            p.card(0, who, 0);
            scores(p, 0, 2 * who, 2 - 2 * who);
            Pommel goal = Scene.pool(3);
            goal.start(0, 0);
            Scene.hits(goal, 0, 2, 4);
            goal.pass(5);
            C.same("to the goal", goal.card(0, who, 1), 1);
            C.same("over", goal.ofBout(0, 0), 2);
            C.same("the other one wins", goal.ofBout(0, 5), 1 - who);
            scores(goal, 0, 4 + who, 5 - who);
            C.same("now", goal.of(0, 6), 125);
            Pommel extra = Scene.pool(3);
            extra.start(0, 0);
            extra.pass(180);
            C.same("yellow in the extra minute", extra.card(0, who, 0), 0);
            C.same("is live", extra.ofBout(0, 0), 1);
            C.same("red by a second yellow", extra.card(0, who, 0), 1);
            C.same("over", extra.ofBout(0, 0), 2);
            C.same("the other one wins", extra.ofBout(0, 5), 1 - who);
            Pommel table = Scene.table(3);
            table.start(4, 0);
            Scene.hits(table, 0, 2, 13);
            table.card(0, who, 1);
            scores(table, 4, 13 + who, 14 - who);
            C.same("is live", table.ofBout(4, 0), 1);
            table.card(0, who, 1);
            C.same("over", table.ofBout(4, 0), 2);
            C.same("goes on", table.ofBout(5, 2), 2 - who);
        }
    }

    private static void outForGood() {
        C.says("With a BLACK one the FENCER is OUT, for good.");
        for (int who = 0; who < 2; who++) {
            Pommel p = Scene.pool(4);
            C.same("nobody", p.many(8), 0);
            p.start(0, 0);
            p.card(0, who, 1);
            C.same("not by red", p.of(who, 4), 0);
            p.card(0, who, 2);
            C.same("out", p.of(who, 4), 1);
            C.same("the other one is not", p.of(1 - who, 4), 0);
            C.same("one", p.many(8), 1);
            for (int bout = 0; bout < 6; bout++) {
                p.pass(120);
                if (p.reason(bout) == 0) {
                    p.start(bout, 0);
                    p.pass(600);
                }
            }
            C.same("still", p.of(who, 4), 1);
            p.draw(0);
            C.same("behind the draw", p.of(who, 4), 1);
            C.same("not in the table", p.meet(who, 2), -1);
            C.same("one", p.many(8), 1);
        }
    }

    private static void blackInTable() {
        C.says("In the TABLE the BOUT is OVER: the other one wins, whatever the SCORES.");
        for (int who = 0; who < 2; who++) {
            for (int score : new int[] {0, 5, 14}) {
                Pommel p = Scene.table(3);
                p.start(4, 0);
                Scene.hits(p, 0, who, score);
                p.pass(4);
                C.same("black", p.card(0, who, 2), 2);
                C.same("over", p.ofBout(4, 0), 2);
                C.same("the other one", p.ofBout(4, 5), 2 - who);
                scores(p, 4, who == 0 ? score : 0, who == 0 ? 0 : score);
                C.same("goes on", p.ofBout(5, 2), 2 - who);
                C.same("out", p.of(1 + who, 4), 1);
                C.same("none is void", p.many(6), 0);
                C.same("the bouts of the pool stay over", p.many(5), 5);
                C.same("ended now", p.of(1, 6), 904 + 120);
                C.same("for both", p.of(2, 6), 904 + 120);
            }
            Pommel extra = Scene.table(3);
            extra.start(4, 0);
            // 4 and 0 are even: the left one has priority.
            extra.pass(599);
            extra.card(0, who, 2);
            C.same("whoever has priority", extra.ofBout(4, 5), 2 - who);
            Pommel last = Scene.table(3);
            Scene.winInTable(last, 4, 0);
            Scene.begin(last, 5);
            last.card(0, who, 2);
            C.same("the table is won", last.many(10), 1 - who);
        }
    }

    private static void blackInPool() {
        C.says("In a POOL this and all BOUTS of that FENCER are VOID, OVER or not");
        Pommel p = Scene.fencers(8);
        p.form(2);
        // The spots of each pool: 0-1, 0-2, 0-3, 1-2, 1-3, 2-3; the pool 1 has the bouts 6 to 11.
        Scene.fence(p, 0, 5, 2);
        Scene.fence(p, 6, 5, 2);
        Scene.fence(p, 4, 3, 5);
        Scene.begin(p, 1);
        p.start(8, 2);
        p.card(0, 0, 2);
        int[] due = {3, 3, 3, 0, 2, 0, 2, 0, 1, 0, 0, 0};
        states(p, due);
        C.same("no winner of a void one", p.ofBout(0, 5), -1);
        C.same("MET of the other one of a void bout", p.order(p.ofBout(0, 2), 0), 1);
        C.refuses("nothing is live there", p, () -> p.hit(0, 0));
        // Another one of the same pool: what is void is so once.
        Scene.begin(p, 3);
        p.card(0, 0, 2);
        states(p, 3, 3, 3, 3, 3, 0, 2, 0, 1, 0, 0, 0);
        for (int what = 0; what < 4; what++) {
            C.same("nothing of the first one", p.order(p.ofBout(0, 1), what), 0);
            C.same("nothing of the second one", p.order(p.ofBout(0, 2), what), 0);
        }
        Pommel last = Scene.pool(3);
        Scene.fence(last, 0, 5, 0);
        Scene.fence(last, 1, 0, 5);
        Scene.begin(last, 2);
        last.card(0, 1, 2);
        states(last, 2, 3, 3);
        Pommel all = Scene.pool(16);
        all.start(0, 0);
        all.card(0, 0, 2);
        C.same("all fifteen", all.many(6), 15);
        C.same("no other one", all.many(3), 105);
        Pommel extra = Scene.pool(3);
        extra.start(0, 0);
        extra.pass(181);
        extra.card(0, 1, 2);
        states(extra, 3, 0, 3);
    }

    private static void endedNow() {
        C.says("(this has ended then, NOW, for both;");
        for (int who = 0; who < 2; who++) {
            Pommel p = Scene.pool(4);
            p.start(0, 2);
            p.pass(33);
            p.card(2, who, 2);
            C.same("the left one", p.of(0, 6), 153);
            C.same("the right one", p.of(1, 6), 153);
            C.same("no live bout of the left one", p.of(0, 5), -1);
            C.same("no live bout of the right one", p.of(1, 5), -1);
            C.same("no piste", p.ofBout(0, 6), -1);
            C.same("no seconds", p.ofBout(0, 7), 0);
            C.same("no period", p.ofBout(0, 8), 0);
            p.start(5, 2);
            C.same("the piste is free at once", p.ofBout(5, 6), 2);
        }
        C.says("one that was OVER ended as it did;");
        Pommel p = Scene.pool(4);
        p.start(0, 0);
        p.pass(10);
        Scene.hits(p, 0, 0, 5);
        p.pass(150);
        p.start(1, 0);
        p.pass(20);
        p.card(0, 0, 2);
        C.same("void", p.ofBout(0, 0), 3);
        C.same("ended at 10", p.of(1, 6), 130);
        C.same("ended at 180", p.of(0, 6), 300);
        C.same("ended at 180", p.of(2, 6), 300);
        C.same("one that waited ended nothing", p.of(3, 6), 0);
    }

    private static void stays() {
        C.says("SCORES and CARDS stay).");
        Pommel p = Scene.pool(4);
        p.start(0, 0);
        p.card(0, 0, 0);
        p.card(0, 1, 1);
        Scene.hits(p, 0, 1, 3);
        Scene.hits(p, 0, 0, 4);
        p.pass(120);
        p.start(1, 0);
        p.card(0, 1, 1);
        Scene.hits(p, 0, 1, 2);
        p.card(0, 0, 2);
        scores(p, 0, 5, 3);
        C.same("yellow of the left one", p.ofBout(0, 10), 1);
        C.same("red of the right one", p.ofBout(0, 11), 2);
        scores(p, 1, 1, 2);
        C.same("black of the left one", p.ofBout(1, 10), 3);
        C.same("red of the right one", p.ofBout(1, 11), 2);
        scores(p, 2, 0, 0);
        C.same("no card in one that waited", p.ofBout(2, 10), 0);
        p.pass(600);
        scores(p, 0, 5, 3);
        scores(p, 1, 1, 2);
    }

    private static void states(Pommel p, int... due) {
        for (int bout = 0; bout < due.length; bout++) {
            C.same("state of " + bout, p.ofBout(bout, 0), due[bout]);
        }
    }

    private static void scores(Pommel p, int bout, int left, int right) {
        C.same("left of " + bout, p.ofBout(bout, 3), left);
        C.same("right of " + bout, p.ofBout(bout, 4), right);
    }
}
