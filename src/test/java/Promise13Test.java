/** Promise 13: order. What counts, and who is ahead, is in a test of the terms 4. */
final class Promise13Test {
    private static final Check C = Check.ofPromise(13);

    public static void main(String[] args) {
        C.says("fencer: a FENCER");
        Pommel p = Scene.pool(4);
        Scene.fence(p, 2, 3, 5);
        C.same("the first one", p.order(0, 3), 5);
        C.same("the last one", p.order(3, 3), 3);
        C.says("what: 0 MET,");
        C.same("none", p.order(1, 0), 0);
        C.same("one", p.order(0, 0), 1);
        Scene.fence(p, 0, 5, 1);
        C.same("two", p.order(0, 0), 2);
        C.says("1 WON,");
        C.same("none", p.order(1, 1), 0);
        C.same("one of two", p.order(0, 1), 1);
        C.same("one", p.order(3, 1), 1);
        C.says("2 GIVEN,");
        C.same("3 and 5", p.order(0, 2), 8);
        C.same("5", p.order(3, 2), 5);
        C.same("none", p.order(2, 2), 0);
        C.says("3 TAKEN,");
        C.same("5 and 1", p.order(0, 3), 6);
        C.same("5", p.order(1, 3), 5);
        C.same("none", p.order(2, 3), 0);
        C.says("4 how many are ahead of it in the ORDER");
        C.same("3 won its only one", p.order(3, 4), 0);
        C.same("0 won one of two", p.order(0, 4), 1);
        C.same("2 met nobody", p.order(2, 4), 2);
        C.same("1 lost its only one", p.order(1, 4), 3);
        Pommel full = Scene.fencers(16);
        C.same("all are ahead of the last one", full.order(15, 4), 15);
        C.same("nobody of the only one", Scene.fencers(1).order(0, 4), 0);
        C.says("Returns that.");
        int[] due = {2, 1, 8, 6, 1};
        for (int what = 0; what <= 4; what++) {
            C.same("order(0, " + what + ")", p.order(0, what), due[what]);
        }
        C.says("Throws IndexOutOfBoundsException if there is no such FENCER");
        C.noIndex("order(n, 0)", p, n -> p.order(n, 0), -1, 4, Scene.LEAST, Scene.MOST);
        C.noIndex("order(n, 4)", p, n -> p.order(n, 4), -1, 4);
        C.noIndex("order(n, 5)", p, n -> p.order(n, 5), -1, 4);
        Pommel none = new Pommel();
        C.noIndex("of a new one", none, n -> none.order(n, 0), 0);
        C.noIndex("of sixteen", full, n -> full.order(n, 4), 16);
        C.says("Throws IllegalArgumentException if what is not 0 to 4");
        C.illegal("order(0, n)", p, n -> p.order(0, n), -1, 5, Scene.LEAST, Scene.MOST);
        C.end();
    }
}
