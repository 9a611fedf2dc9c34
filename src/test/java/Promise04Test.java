/** Promise 4: of. */
final class Promise04Test {
    private static final Check C = Check.ofPromise(4);

    public static void main(String[] args) {
        pools();
        liveAndOut();
        rest();
        wrongOnes();
        C.end();
    }

    private static void pools() {
        C.says("fencer: a FENCER");
        Pommel p = new Pommel();
        p.fencer(8, 3);
        p.fencer(99, 0);
        p.fencer(0, 5);
        C.same("the first one", p.of(0, 0), 8);
        C.same("the last one", p.of(2, 0), 0);
        C.says("what: 0 its RANK,");
        C.same("rank", p.of(1, 0), 99);
        C.says("1 its CLUB,");
        C.same("club", p.of(0, 1), 3);
        C.same("club", p.of(1, 1), 0);
        C.same("club", p.of(2, 1), 5);
        C.says("2 its POOL (NONE),");
        C.same("before", p.of(2, 2), -1);
        Pommel four = Scene.fencers(12);
        C.same("before", four.of(11, 2), -1);
        four.form(4);
        C.same("the first pool", four.of(0, 2), 0);
        C.same("the last pool", four.of(3, 2), 3);
        C.says("3 its SPOT (NONE),");
        C.same("before", p.of(2, 3), -1);
        p.form(1);
        C.same("the first spot", p.of(2, 3), 0);
        C.same("the last spot", p.of(1, 3), 2);
    }

    private static void liveAndOut() {
        C.says("4 1 if it is OUT, otherwise 0,");
        Pommel p = Scene.pool(4);
        C.same("not at first", p.of(0, 4), 0);
        p.start(5, 0);
        p.card(0, 1, 1);
        C.same("not by red", p.of(3, 4), 0);
        p.card(0, 1, 2);
        C.same("by black", p.of(3, 4), 1);
        C.same("not the other one", p.of(2, 4), 0);
        C.says("5 the LIVE BOUT in which it is (NONE),");
        C.same("before any bout", p.of(0, 5), -1);
        C.same("it was void", p.of(3, 5), -1);
        p.start(0, 2);
        C.same("of the left one, the bout 0", p.of(0, 5), 0);
        C.same("of the right one", p.of(1, 5), 0);
        C.same("of another one", p.of(2, 5), -1);
        Scene.hits(p, 2, 1, 5);
        C.same("it is over", p.of(0, 5), -1);
        C.same("it is over", p.of(1, 5), -1);
        p.pass(120);
        p.start(3, 1);
        C.same("the next one", p.of(1, 5), 3);
        p.pass(180);
        C.same("in the extra minute", p.of(1, 5), 3);
        p.pass(60);
        C.same("it is over by time", p.of(1, 5), -1);
        Pommel t = Scene.table(3);
        C.same("without another one it is not live", t.of(0, 5), -1);
        t.start(4, 0);
        C.same("of the table", t.of(2, 5), 4);
    }

    private static void rest() {
        C.says("6 at which time the last LIVE BOUT of it ended, and 120 (0, if none ended)");
        Pommel p = Scene.pool(3);
        C.same("none", p.of(0, 6), 0);
        p.start(0, 0);
        C.same("none while it is live", p.of(0, 6), 0);
        Scene.hits(p, 0, 0, 5);
        C.same("ended at 0", p.of(0, 6), 120);
        C.same("ended at 0 for the other one", p.of(1, 6), 120);
        C.same("none", p.of(2, 6), 0);
        p.pass(130);
        p.start(1, 0);
        C.same("still that of before", p.of(0, 6), 120);
        p.hit(0, 0);
        p.pass(600);
        C.same("ended with its own last second", p.of(0, 6), 130 + 180 + 120);
        p.start(2, 0);
        p.pass(7);
        p.card(0, 0, 2);
        C.same("ended by black", p.of(1, 6), 737 + 120);
        C.same("for the other one", p.of(2, 6), 737 + 120);
        C.same("one that was void without being live ends nothing", p.of(0, 6), 430);
        Pommel t = Scene.table(3);
        C.same("a bout without another one ends nothing", t.of(0, 6), 600);
        t.start(4, 0);
        Scene.hits(t, 0, 0, 15);
        C.same("ended in the table", t.of(2, 6), 1020);
    }

    private static void wrongOnes() {
        C.says("Returns that.");
        Pommel p = Scene.pool(3);
        int[] due = {2, 2, 0, 2, 0, -1, 0};
        for (int what = 0; what <= 6; what++) {
            C.same("of(2, " + what + ")", p.of(2, what), due[what]);
        }
        C.says("Throws IndexOutOfBoundsException if there is no such FENCER");
        C.noIndex("of(n, 0)", p, n -> p.of(n, 0), -1, 3, Scene.LEAST, Scene.MOST);
        C.noIndex("of(n, 7)", p, n -> p.of(n, 7), -1, 3);
        Pommel none = new Pommel();
        C.noIndex("of a new one", none, n -> none.of(n, 0), 0);
        Pommel full = Scene.fencers(16);
        C.noIndex("of sixteen", full, n -> full.of(n, 0), 16);
        C.says("Throws IllegalArgumentException if what is not 0 to 6");
        C.illegal("of(0, n)", p, n -> p.of(0, n), -1, 7, Scene.LEAST, Scene.MOST);
    }
}
