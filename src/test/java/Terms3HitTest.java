/** Terms 3: hits. */
final class Terms3HitTest {
    private static final Check C = Check.ofLines("Terms 3", "A HIT is one more to the SCORE");

    public static void main(String[] args) {
        oneMore();
        bothAtOnce();
        bothInExtra();
        byGoal();
        inExtra();
        C.end();
    }

    private static void oneMore() {
        C.says("A HIT is one more to the SCORE of the LEFT one, of the RIGHT one, or of both.");
        Pommel p = Scene.pool(4);
        p.start(0, 0);
        p.start(5, 2);
        p.hit(0, 0);
        scores(p, 0, 1, 0);
        p.hit(0, 1);
        scores(p, 0, 1, 1);
        p.hit(0, 2);
        scores(p, 0, 2, 2);
        p.hit(0, 1);
        scores(p, 0, 2, 3);
        scores(p, 5, 0, 0);
        p.hit(2, 0);
        scores(p, 0, 2, 3);
        scores(p, 5, 1, 0);
    }

    private static void bothAtOnce() {
        C.says("One of both does not count, if each would have its GOAL by it,");
        for (int left = 0; left <= 4; left++) {
            for (int right = 0; right <= 4; right++) {
                Pommel p = with(Scene.pool(3), 0, left, right);
                boolean over = left == 4 ^ right == 4;
                boolean counts = left < 4 || right < 4;
                C.yes("over from " + left + " " + right, p.hit(0, 2) == over);
                scores(p, 0, left + (counts ? 1 : 0), right + (counts ? 1 : 0));
                C.same("state", p.ofBout(0, 0), over ? 2 : 1);
                C.same("winner", p.ofBout(0, 5), !over ? -1 : left == 4 ? 0 : 1);
            }
        }
        int[][] cases = {{4, 4}, {13, 13}, {13, 14}, {14, 13}, {0, 14}, {14, 0}, {14, 14}};
        for (int[] row : cases) {
            Pommel p = with(Scene.table(3), 4, row[0], row[1]);
            boolean over = row[0] == 14 ^ row[1] == 14;
            boolean counts = row[0] < 14 || row[1] < 14;
            C.yes("over from " + row[0] + " " + row[1], p.hit(0, 2) == over);
            scores(p, 4, row[0] + (counts ? 1 : 0), row[1] + (counts ? 1 : 0));
            C.same("winner", p.ofBout(4, 5), !over ? -1 : row[0] == 14 ? 1 : 2);
        }
        Pommel again = with(Scene.pool(3), 0, 4, 4);
        C.yes("nor a second time", !again.hit(0, 2) && !again.hit(0, 2));
        scores(again, 0, 4, 4);
        C.yes("one of one counts", again.hit(0, 1));
        scores(again, 0, 4, 5);
    }

    private static void bothInExtra() {
        C.says("or in the EXTRA minute.");
        for (int score = 0; score <= 4; score++) {
            Pommel p = with(Scene.pool(3), 0, score, score);
            p.pass(180);
            C.yes("with its first second", !p.hit(0, 2));
            p.pass(59);
            C.yes("with its last second", !p.hit(0, 2));
            scores(p, 0, score, score);
            C.same("is live", p.ofBout(0, 0), 1);
            C.same("seconds", p.ofBout(0, 7), 1);
        }
        Pommel before = with(Scene.pool(3), 0, 1, 1);
        before.pass(179);
        C.yes("a second before it", !before.hit(0, 2));
        scores(before, 0, 2, 2);
        Pommel table = with(Scene.table(3), 4, 3, 3);
        table.pass(180);
        C.yes("in the second period", !table.hit(0, 2));
        scores(table, 4, 4, 4);
        table.pass(180);
        C.yes("in the third period", !table.hit(0, 2));
        scores(table, 4, 5, 5);
        table.pass(180);
        C.yes("in the extra minute", !table.hit(0, 2));
        scores(table, 4, 5, 5);
    }

    private static void byGoal() {
        C.says("A BOUT is OVER, as soon as a SCORE is its GOAL,");
        for (int who = 0; who < 2; who++) {
            Pommel p = with(Scene.pool(3), 0, 4, 4);
            C.same("is live", p.ofBout(0, 0), 1);
            p.pass(7);
            C.yes("over", p.hit(0, who));
            C.same("over", p.ofBout(0, 0), 2);
            C.same("winner", p.ofBout(0, 5), who);
            C.same("now", p.of(0, 6), 127);
            C.refuses("no hit behind it", p, () -> p.hit(0, 0));
            Pommel t = with(Scene.table(3), 4, 14, 14);
            C.yes("over", t.hit(0, who));
            C.same("winner", t.ofBout(4, 5), 1 + who);
            Pommel clean = with(Scene.table(3), 4, who == 0 ? 5 : 0, who == 0 ? 0 : 5);
            C.same("five are no goal in the table", clean.ofBout(4, 0), 1);
        }
    }

    private static void inExtra() {
        C.says("or a HIT counts in the EXTRA minute: the greater SCORE wins.");
        for (int who = 0; who < 2; who++) {
            for (int score = 0; score <= 4; score++) {
                // With 0 the left one has priority, with 1 the right one, and so on.
                Pommel p = with(Scene.pool(3), 0, score, score);
                p.pass(180);
                C.yes("over", p.hit(0, who));
                C.same("winner", p.ofBout(0, 5), who);
                scores(p, 0, score + (who == 0 ? 1 : 0), score + (who == 1 ? 1 : 0));
                C.same("now", p.of(1, 6), 300);
            }
            Pommel last = Scene.pool(3);
            last.start(0, 0);
            last.pass(239);
            C.yes("with the last second", last.hit(0, who));
            C.same("winner", last.ofBout(0, 5), who);
            Pommel t = Scene.table(3);
            t.start(4, 0);
            t.pass(540);
            C.yes("in the table", t.hit(0, who));
            C.same("winner", t.ofBout(4, 5), 1 + who);
        }
    }

    /** Starts a bout on the piste 0 and brings it to these scores. */
    private static Pommel with(Pommel p, int bout, int left, int right) {
        p.start(bout, 0);
        Scene.hits(p, 0, 0, left);
        Scene.hits(p, 0, 1, right);
        return p;
    }

    private static void scores(Pommel p, int bout, int left, int right) {
        C.same("left of " + bout, p.ofBout(bout, 3), left);
        C.same("right of " + bout, p.ofBout(bout, 4), right);
    }
}
