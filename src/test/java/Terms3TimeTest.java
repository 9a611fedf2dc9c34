/** Terms 3: how time passes in live bouts. */
final class Terms3TimeTest {
    private static final Check C = Check.ofLines("Terms 3", "As time passes, each LIVE BOUT goes on");

    public static void main(String[] args) {
        goesOn();
        nextPeriod();
        over();
        priority();
        endOfExtra();
        C.end();
    }

    private static void goesOn() {
        C.says("As time passes, each LIVE BOUT goes on for as many seconds.");
        Pommel p = Scene.pool(6);
        int[] bouts = {Scene.bout(6, 0, 1), Scene.bout(6, 2, 3), Scene.bout(6, 4, 5)};
        for (int piste = 0; piste < 3; piste++) {
            p.start(bouts[piste], piste);
            C.same("a new one has all its time", p.ofBout(bouts[piste], 7), 180);
            p.pass(1 + piste);
        }
        C.same("first", p.ofBout(bouts[0], 7), 174);
        C.same("second", p.ofBout(bouts[1], 7), 175);
        C.same("third", p.ofBout(bouts[2], 7), 177);
        C.same("one that waits", p.ofBout(1, 7), 0);
        p.pass(173);
        C.same("first", p.ofBout(bouts[0], 7), 1);
        C.same("second", p.ofBout(bouts[1], 7), 2);
        C.same("third", p.ofBout(bouts[2], 7), 4);
        p.hit(1, 0);
        p.hit(2, 1);
        C.same("the second one is over", p.pass(2), 1);
        C.same("the first one is in its extra minute", p.ofBout(bouts[0], 7), 59);
        C.same("the third one is live", p.ofBout(bouts[2], 7), 2);
        C.same("both others are over", p.pass(600), 2);
        int[] ends = {240, 181, 183};
        for (int piste = 0; piste < 3; piste++) {
            C.same("ended with its own second", p.of(2 * piste, 6), ends[piste] + 120);
            C.same("ended with its own second", p.of(2 * piste + 1, 6), ends[piste] + 120);
        }
        C.same("nothing is live", p.pass(600), 0);
    }

    private static void nextPeriod() {
        C.says("With the last second of a PERIOD, its own, also if more time passes, the next one"
                + " begins;");
        time(1, 1, 179);
        time(179, 1, 1);
        time(180, 2, 180);
        time(181, 2, 179);
        time(359, 2, 1);
        time(360, 3, 180);
        time(361, 3, 179);
        time(539, 3, 1);
        time(540, 4, 60);
        time(541, 4, 59);
        time(599, 4, 1);
        Pommel p = Scene.table(3);
        p.start(4, 0);
        int[] passes = {179, 1, 181, 178, 1, 59};
        int[] periods = {1, 2, 3, 3, 4, 4};
        int[] left = {1, 180, 179, 1, 60, 1};
        for (int i = 0; i < passes.length; i++) {
            C.same("pass(" + passes[i] + ")", p.pass(passes[i]), 0);
            C.same("period", p.ofBout(4, 8), periods[i]);
            C.same("seconds", p.ofBout(4, 7), left[i]);
        }
    }

    /** A bout of the table after so many seconds that pass at once, and by one and the others. */
    private static void time(int seconds, int period, int left) {
        Pommel once = Scene.table(3);
        once.start(4, 0);
        C.same("pass(" + seconds + ")", once.pass(seconds), 0);
        C.same("period after " + seconds, once.ofBout(4, 8), period);
        C.same("seconds after " + seconds, once.ofBout(4, 7), left);
        if (seconds > 1) {
            Pommel twice = Scene.table(3);
            twice.start(4, 0);
            twice.pass(1);
            twice.pass(seconds - 1);
            C.same("period after 1 and " + (seconds - 1), twice.ofBout(4, 8), period);
            C.same("seconds after 1 and " + (seconds - 1), twice.ofBout(4, 7), left);
        }
    }

    private static void over() {
        C.says("or, if it was the last one, the BOUT is OVER, if the SCORES are not the same: the"
                + " greater one wins.");
        for (int who = 0; who < 2; who++) {
            for (int seconds : new int[] {180, 181, 240, 600}) {
                Pommel p = Scene.pool(3);
                p.start(0, 0);
                Scene.hits(p, 0, 2, 3);
                p.hit(0, who);
                C.same("pass(" + seconds + ")", p.pass(seconds), 1);
                C.same("over", p.ofBout(0, 0), 2);
                C.same("the greater one", p.ofBout(0, 5), who);
                C.same("its own last second", p.of(0, 6), 300);
                C.same("now", p.many(7), seconds);
            }
            Pommel p = Scene.table(3);
            p.start(4, 0);
            p.hit(0, who);
            C.same("the first period", p.pass(180), 0);
            C.same("the second one", p.pass(180), 0);
            C.same("all but a second of the last one", p.pass(179), 0);
            C.same("is live", p.ofBout(4, 0), 1);
            C.same("the last second", p.pass(1), 1);
            C.same("the greater one", p.ofBout(4, 5), 1 + who);
            C.same("no extra minute", p.of(1, 6), 900 + 540 + 120);
            Pommel once = Scene.table(3);
            once.start(4, 0);
            once.hit(0, who);
            C.same("pass(600)", once.pass(600), 1);
            C.same("its own last second", once.of(2, 6), 900 + 540 + 120);
        }
    }

    private static void priority() {
        C.says("Otherwise it has an EXTRA minute, in which the LEFT one has PRIORITY, if the sum of"
                + " the number of the BOUT and of the SCORE of the LEFT one is even, otherwise the"
                + " RIGHT one;");
        // The bouts of a pool of three are 0-1, 0-2, 1-2.
        int[][] fencers = {{0, 1}, {0, 2}, {1, 2}};
        for (int bout = 0; bout < 3; bout++) {
            for (int score = 0; score <= 4; score++) {
                Pommel p = Scene.pool(3);
                p.start(bout, 0);
                Scene.hits(p, 0, 2, score);
                p.pass(179);
                C.same("none yet", p.ofBout(bout, 9), -1);
                C.same("not over", p.pass(1), 0);
                C.same("is live", p.ofBout(bout, 0), 1);
                C.same("period", p.ofBout(bout, 8), 2);
                C.same("seconds", p.ofBout(bout, 7), 60);
                C.same("priority in " + bout + " with " + score, p.ofBout(bout, 9),
                        fencers[bout][(bout + score) % 2]);
            }
        }
        // The bouts of the table are numbered behind those of the pool: 4 is 1-2.
        for (int score = 0; score <= 14; score++) {
            Pommel p = Scene.table(3);
            p.start(4, 0);
            Scene.hits(p, 0, 2, score);
            p.pass(539);
            C.same("none yet", p.ofBout(4, 9), -1);
            p.pass(1);
            C.same("seconds", p.ofBout(4, 7), 60);
            C.same("priority in 4 with " + score, p.ofBout(4, 9), score % 2 == 0 ? 1 : 2);
        }
    }

    private static void endOfExtra() {
        C.says("at the end of that it is OVER: who has PRIORITY wins.");
        for (int bout = 0; bout < 2; bout++) {
            Pommel p = Scene.pool(3);
            p.start(bout, 0);
            C.same("pass(239)", p.pass(239), 0);
            C.same("a second is left", p.ofBout(bout, 7), 1);
            int winner = p.ofBout(bout, 9);
            C.same("the last second", p.pass(1), 1);
            C.same("over", p.ofBout(bout, 0), 2);
            C.same("who had priority", p.ofBout(bout, 5), winner);
            C.same("the left one with 0, the right one with 1", winner, bout == 0 ? 0 : 2);
            C.same("the scores stay", p.ofBout(bout, 3) + p.ofBout(bout, 4), 0);
            for (int seconds : new int[] {240, 241, 600}) {
                Pommel once = Scene.pool(3);
                once.start(bout, 0);
                C.same("pass(" + seconds + ")", once.pass(seconds), 1);
                C.same("who had priority", once.ofBout(bout, 5), winner);
                C.same("its own last second", once.of(0, 6), 240 + 120);
            }
        }
        Pommel p = Scene.table(3);
        p.start(4, 0);
        C.same("pass(599)", p.pass(599), 0);
        C.same("pass(600)", p.pass(600), 1);
        C.same("who had priority", p.ofBout(4, 5), 1);
        C.same("its own last second", p.of(1, 6), 900 + 600 + 120);
        Pommel once = Scene.table(3);
        once.start(4, 0);
        C.same("all the time in one call", once.pass(600), 1);
        C.same("goes on in the table", once.ofBout(5, 2), 1);
    }
}
