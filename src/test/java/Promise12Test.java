/** Promise 12: many. */
final class Promise12Test {
    private static final Check C = Check.ofPromise(12);

    public static void main(String[] args) {
        fencersAndPools();
        bouts();
        timeAndOut();
        table();
        all();
        wrongOnes();
        C.end();
    }

    private static void fencersAndPools() {
        C.says("what: 0 FENCERS,");
        Pommel p = new Pommel();
        for (int count = 0; count <= 16; count++) {
            C.same("many(0)", p.many(0), count);
            if (count < 16) {
                p.fencer(0, 0);
            }
        }
        C.says("1 POOLS,");
        C.same("not formed", p.many(1), 0);
        p.form(4);
        C.same("formed", p.many(1), 4);
        C.same("one", Scene.pool(3).many(1), 1);
        C.says("2 BOUTS,");
        C.same("of the pools", p.many(2), 24);
        C.same("not formed", Scene.fencers(16).many(2), 0);
        C.same("the most in pools", Scene.pool(16).many(2), 120);
        C.same("with the table", Scene.fullTable().many(2), 24 + 15);
        C.same("with the smallest table", tableOfTwo().many(2), 3 + 1);
    }

    private static void bouts() {
        C.says("3 to 6 BOUTS that WAIT, are LIVE, OVER, VOID,");
        Pommel p = Scene.pool(6);
        states(p, 15, 0, 0, 0);
        p.start(Scene.bout(6, 0, 1), 0);
        p.start(Scene.bout(6, 2, 3), 1);
        p.start(Scene.bout(6, 4, 5), 2);
        states(p, 12, 3, 0, 0);
        Scene.hits(p, 0, 0, 5);
        states(p, 12, 2, 1, 0);
        p.card(1, 0, 2);
        states(p, 8, 1, 1, 5);
        p.pass(240);
        states(p, 8, 0, 2, 5);
        p.pass(120);
        p.start(Scene.bout(6, 0, 4), 0);
        p.card(0, 1, 2);
        // Of the five of 4 one was void already, one was over, one was live.
        states(p, 5, 0, 1, 9);
        Pommel t = Scene.table(5);
        // Ten of the pool, and three of the table that were won at once.
        states(t, 4, 0, 13, 0);
        Scene.begin(t, 11);
        states(t, 3, 1, 13, 0);
        t.card(0, 0, 2);
        states(t, 3, 0, 14, 0);
    }

    private static void states(Pommel p, int... due) {
        for (int i = 0; i < 4; i++) {
            C.same("many(" + (3 + i) + ")", p.many(3 + i), due[i]);
        }
    }

    private static void timeAndOut() {
        C.says("7 NOW,");
        Pommel p = Scene.pool(4);
        C.same("at first", p.many(7), 0);
        p.pass(1);
        C.same("behind 1", p.many(7), 1);
        p.pass(600);
        C.same("behind 601", p.many(7), 601);
        C.says("8 FENCERS that are OUT,");
        C.same("none", p.many(8), 0);
        p.start(0, 0);
        p.card(0, 0, 2);
        C.same("one", p.many(8), 1);
        p.start(5, 0);
        p.card(0, 1, 2);
        C.same("two", p.many(8), 2);
        Pommel t = tableOfTwo();
        C.same("none", t.many(8), 0);
        Scene.begin(t, 3);
        t.card(0, 1, 2);
        C.same("one of the table", t.many(8), 1);
    }

    private static Pommel tableOfTwo() {
        Pommel p = Scene.fenced(3);
        p.draw(50);
        return p;
    }

    private static void table() {
        C.says("9 the SIZE of the TABLE (0, if it is not drawn),");
        C.same("a new one", new Pommel().many(9), 0);
        C.same("at the end of the pools", Scene.fenced(3).many(9), 0);
        C.same("of 2", tableOfTwo().many(9), 2);
        C.same("of 3", Scene.table(3).many(9), 4);
        C.same("of 5", Scene.table(5).many(9), 8);
        C.same("of 9", Scene.table(9).many(9), 16);
        C.same("of 16", Scene.fullTable().many(9), 16);
        C.says("10 the FENCER who won the last BOUT of the TABLE (NONE)");
        C.same("a new one", new Pommel().many(10), -1);
        C.same("the last bout of the pool is no such", Scene.fenced(3).many(10), -1);
        Pommel two = tableOfTwo();
        C.same("drawn", two.many(10), -1);
        Scene.begin(two, 3);
        C.same("live", two.many(10), -1);
        Scene.hits(two, 0, 0, 15);
        C.same("the fencer 0 won", two.many(10), 0);
        Pommel three = Scene.table(3);
        C.same("one bout was won at once", three.many(10), -1);
        Scene.winInTable(three, 4, 1);
        C.same("not the last one", three.many(10), -1);
        Scene.winInTable(three, 5, 1);
        C.same("the last one", three.many(10), 2);
    }

    private static void all() {
        C.says("Returns that.");
        Pommel p = Scene.fencers(7);
        all(p, 7, 0, 0, 0, 0, 0, 0, 0, 0, 0, -1);
        p.form(2);
        p.start(0, 0);
        p.start(8, 1);
        p.pass(10);
        Scene.hits(p, 0, 0, 5);
        all(p, 7, 2, 9, 7, 1, 1, 0, 10, 0, 0, -1);
        Pommel t = Scene.table(3);
        all(t, 3, 1, 6, 2, 0, 4, 0, 900, 0, 4, -1);
        Scene.winInTable(t, 4, 1);
        Scene.begin(t, 5);
        t.card(0, 0, 2);
        all(t, 3, 1, 6, 0, 0, 6, 0, 1140, 1, 4, 2);
    }

    private static void all(Pommel p, int... due) {
        for (int what = 0; what <= 10; what++) {
            C.same("many(" + what + ")", p.many(what), due[what]);
        }
    }

    private static void wrongOnes() {
        C.says("Throws IllegalArgumentException if what is not 0 to 10");
        Pommel p = Scene.table(3);
        C.illegal("many", p, n -> p.many(n), -1, 11, Scene.LEAST, Scene.MOST);
        Pommel none = new Pommel();
        C.illegal("many of a new one", none, n -> none.many(n), -1, 11);
    }
}
