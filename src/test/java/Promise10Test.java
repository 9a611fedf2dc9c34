/** Promise 10: reason. */
final class Promise10Test {
    private static final Check C = Check.ofPromise(10);

    public static void main(String[] args) {
        ready();
        doesNotWait();
        notKnown();
        live();
        rest();
        wrongOnes();
        C.end();
    }

    private static void ready() {
        C.says("bout: a BOUT");
        Pommel p = Scene.pool(4);
        p.start(0, 0);
        C.same("the first one", p.reason(0), 1);
        C.same("the last one", p.reason(5), 0);
        C.says("Returns 0 if it is READY;");
        for (int bout = 0; bout < 6; bout++) {
            Pommel some = Scene.pool(4);
            C.same("reason", some.reason(bout), 0);
            some.start(bout, 0);
            C.same("it starts", some.ofBout(bout, 0), 1);
        }
        Pommel taken = Scene.pool(6);
        taken.start(Scene.bout(6, 0, 1), 0);
        taken.start(Scene.bout(6, 2, 3), 1);
        C.same("whatever pistes are free", taken.reason(Scene.bout(6, 4, 5)), 0);
        taken.start(Scene.bout(6, 4, 5), 2);
        Pommel full = Scene.pool(8);
        for (int piste = 0; piste < 3; piste++) {
            full.start(Scene.bout(8, 2 * piste, 2 * piste + 1), piste);
        }
        C.same("also if none is free", full.reason(Scene.bout(8, 6, 7)), 0);
    }

    private static void doesNotWait() {
        C.says("otherwise the first of these that is so: 1 it does not WAIT,");
        Pommel p = Scene.pool(3);
        p.start(0, 0);
        // Both are in a live bout, too: this one.
        C.same("is live", p.reason(0), 1);
        Scene.hits(p, 0, 0, 5);
        // Both have not rested, too.
        C.same("over", p.reason(0), 1);
        p.pass(120);
        C.same("over and rested", p.reason(0), 1);
        p.start(1, 0);
        // The left one is in a live bout, too.
        C.same("over, and one is live", p.reason(0), 1);
        p.card(0, 0, 2);
        C.same("void", p.reason(1), 1);
        C.same("void, was over", p.reason(0), 1);
        Pommel t = Scene.table(3);
        // There is no other one, too.
        C.same("won at once", t.reason(3), 1);
    }

    private static void notKnown() {
        C.says("2 one of its FENCERS is not known,");
        Pommel t = Scene.table(3);
        C.same("the right one", t.reason(5), 2);
        Pommel four = Scene.table(4);
        C.same("both", four.reason(8), 2);
        four.start(7, 0);
        C.same("both", four.reason(8), 2);
        Scene.hits(four, 0, 0, 15);
        // The right one has not rested, too.
        C.same("the left one", four.reason(8), 2);
        Pommel eight = Scene.table(8);
        eight.pass(120);
        eight.start(28, 0);
        Scene.hits(eight, 0, 0, 15);
        C.same("one of two in the round 1", eight.reason(32), 2);
        C.same("none in the round 2", eight.reason(34), 2);
    }

    private static void live() {
        C.says("3 one is in a LIVE BOUT,");
        Pommel p = Scene.pool(4);
        p.start(0, 0);
        C.same("the left one", p.reason(1), 3);
        C.same("the right one of that is the left one", p.reason(3), 3);
        C.same("neither", p.reason(5), 0);
        p.start(5, 1);
        C.same("both, in two bouts", p.reason(1), 3);
        Scene.hits(p, 0, 0, 5);
        // The left one has not rested, too.
        C.same("the right one", p.reason(1), 3);
        Pommel right = Scene.pool(4);
        right.start(5, 1);
        C.same("the right one alone", right.reason(1), 3);
        right.pass(239);
        C.same("its last second", right.reason(1), 3);
        right.pass(1);
        C.same("it has not rested", right.reason(1), 4);
    }

    private static void rest() {
        C.says("4 one has not rested.");
        Pommel p = Scene.pool(4);
        p.start(0, 0);
        Scene.hits(p, 0, 0, 5);
        C.same("the left one", p.reason(1), 4);
        p.pass(119);
        C.same("a second is left", p.reason(1), 4);
        p.pass(1);
        C.same("rested", p.reason(1), 0);
        Pommel right = Scene.pool(4);
        right.start(5, 0);
        Scene.hits(right, 0, 0, 5);
        C.same("the right one", right.reason(1), 4);
        right.pass(60);
        right.start(0, 0);
        Scene.hits(right, 0, 0, 5);
        right.pass(119);
        C.same("the other one has", right.reason(1), 4);
        right.pass(1);
        C.same("both have", right.reason(1), 0);
        Pommel t = Scene.table(4);
        t.start(6, 0);
        t.hit(0, 0);
        t.pass(600);
        t.start(7, 0);
        Scene.hits(t, 0, 0, 15);
        C.same("of the table", t.reason(8), 4);
        t.pass(120);
        C.same("rested", t.reason(8), 0);
    }

    private static void wrongOnes() {
        C.says("Throws IndexOutOfBoundsException if there is no such BOUT");
        Pommel p = Scene.pool(4);
        C.noIndex("reason", p, n -> p.reason(n), -1, 6, Scene.LEAST, Scene.MOST);
        Pommel none = new Pommel();
        C.noIndex("without bouts", none, n -> none.reason(n), -1, 0);
        Pommel t = Scene.table(3);
        C.same("the last one", t.reason(5), 2);
        C.noIndex("behind the table", t, n -> t.reason(n), 6);
    }
}
