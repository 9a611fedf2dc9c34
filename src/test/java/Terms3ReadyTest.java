/** Terms 3: when a bout is ready. */
final class Terms3ReadyTest {
    private static final Check C = Check.ofLines("Terms 3", "A BOUT is READY, if it WAITS");

    public static void main(String[] args) {
        waits();
        known();
        live();
        C.says("and each has rested: 120 seconds, or more, have passed since the last LIVE BOUT of it"
                + " ended.");
        neverFenced();
        byHits();
        byTime();
        byBlack();
        inTheTable();
        C.end();
    }

    private static void waits() {
        C.says("A BOUT is READY, if it WAITS,");
        Pommel p = Scene.pool(3);
        C.same("it waits", p.reason(0), 0);
        p.start(0, 0);
        notReady(p, 0, 1);
        Scene.hits(p, 0, 0, 5);
        p.pass(600);
        notReady(p, 0, 1);
        p.start(1, 0);
        p.card(0, 0, 2);
        p.pass(600);
        notReady(p, 1, 1);
        notReady(p, 0, 1);
        C.same("it waits", p.reason(2), 0);
    }

    private static void known() {
        C.says("both its FENCERS are known,");
        Pommel p = Scene.table(4);
        p.pass(600);
        notReady(p, 8, 2);
        p.start(6, 0);
        Scene.hits(p, 0, 0, 15);
        p.pass(600);
        notReady(p, 8, 2);
        p.start(7, 0);
        Scene.hits(p, 0, 0, 15);
        p.pass(119);
        notReady(p, 8, 4);
        p.pass(1);
        C.same("both are known, and have rested", p.reason(8), 0);
        Pommel right = Scene.table(4);
        Scene.winInTable(right, 7, 1);
        right.pass(600);
        notReady(right, 8, 2);
        Pommel bye = Scene.table(3);
        bye.pass(600);
        notReady(bye, 5, 2);
    }

    private static void live() {
        C.says("none is in a LIVE BOUT,");
        Pommel p = Scene.pool(5);
        p.start(Scene.bout(5, 1, 3), 1);
        notReady(p, Scene.bout(5, 0, 1), 3);
        notReady(p, Scene.bout(5, 1, 2), 3);
        notReady(p, Scene.bout(5, 2, 3), 3);
        notReady(p, Scene.bout(5, 3, 4), 3);
        p.start(Scene.bout(5, 0, 2), 0);
        notReady(p, Scene.bout(5, 0, 1), 3);
        notReady(p, Scene.bout(5, 0, 4), 3);
        Scene.hits(p, 1, 0, 5);
        p.pass(120);
        C.same("none is live any more", p.reason(Scene.bout(5, 3, 4)), 0);
        notReady(p, Scene.bout(5, 0, 1), 3);
        p.start(Scene.bout(5, 3, 4), 1);
        C.same("live", p.ofBout(Scene.bout(5, 3, 4), 0), 1);
    }

    private static void neverFenced() {
        Pommel p = Scene.pool(3);
        C.same("at the time 0", p.reason(0), 0);
        p.pass(1);
        C.same("at the time 1", p.reason(0), 0);
        p.start(0, 0);
        C.same("starts", p.ofBout(0, 0), 1);
    }

    private static void byHits() {
        Pommel p = Scene.pool(3);
        p.start(0, 0);
        Scene.hits(p, 0, 0, 5);
        notReady(p, 1, 4);
        p.pass(119);
        // The left one has not rested; the right one never fenced.
        notReady(p, 1, 4);
        p.pass(1);
        C.same("after 120", p.reason(1), 0);
        p.start(1, 0);
        Scene.hits(p, 0, 0, 5);
        p.pass(119);
        // The left one has rested; the right one has not.
        notReady(p, 2, 4);
        p.pass(1);
        C.same("after 120", p.reason(2), 0);
        p.pass(1);
        C.same("after 121", p.reason(2), 0);
        p.start(2, 0);
        C.same("starts", p.ofBout(2, 0), 1);
    }

    private static void byTime() {
        Pommel p = Scene.pool(3);
        p.start(0, 0);
        p.hit(0, 0);
        p.pass(299);
        notReady(p, 1, 4);
        p.pass(1);
        C.same("120 after its own end", p.reason(1), 0);
        Pommel extra = Scene.pool(3);
        extra.start(0, 0);
        extra.pass(359);
        notReady(extra, 1, 4);
        extra.pass(1);
        C.same("120 after its own extra minute", extra.reason(1), 0);
        Pommel once = Scene.pool(3);
        once.start(0, 0);
        once.pass(600);
        C.same("rested as time passed", once.reason(1), 0);
    }

    private static void byBlack() {
        Pommel p = Scene.pool(4);
        p.start(0, 0);
        p.pass(50);
        p.card(0, 0, 2);
        p.pass(119);
        notReady(p, 3, 4);
        notReady(p, 4, 4);
        p.pass(1);
        C.same("120 after the black card", p.reason(3), 0);
        Pommel before = Scene.pool(4);
        before.start(0, 0);
        Scene.hits(before, 0, 0, 5);
        before.pass(120);
        before.start(1, 0);
        before.card(0, 0, 2);
        // The bout 0 is void now, but ended before; the bout 1 ended now.
        C.same("1 and 3 have rested", before.reason(4), 0);
        notReady(before, 3, 4);
    }

    private static void inTheTable() {
        Pommel p = Scene.table(3);
        C.same("the time", p.many(7), 900);
        C.same("without another one nobody rests", p.of(0, 6), 480 + 120);
        p.start(4, 0);
        Scene.hits(p, 0, 0, 15);
        p.pass(119);
        notReady(p, 5, 4);
        p.pass(1);
        C.same("after 120", p.reason(5), 0);
        Pommel early = Scene.fenced(3);
        // The last bout of the pool ended at 780, and the time is 900: it is drawn at once.
        early.draw(0);
        C.same("rested since the pool", early.reason(4), 0);
        Pommel soon = Scene.pool(3);
        for (int bout = 0; bout < 3; bout++) {
            Scene.fence(soon, bout, 5, 0);
        }
        soon.draw(0);
        notReady(soon, 4, 4);
        soon.pass(119);
        notReady(soon, 4, 4);
        soon.pass(1);
        C.same("rested since the pool", soon.reason(4), 0);
    }

    private static void notReady(Pommel p, int bout, int reason) {
        C.same("reason(" + bout + ")", p.reason(bout), reason);
        C.yes("next() is not " + bout, p.next() != bout);
        C.refuses("start(" + bout + ")", p, () -> p.start(bout, 2));
    }
}
