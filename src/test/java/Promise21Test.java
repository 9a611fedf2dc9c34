/** Promise 21: voidWith. */
final class Promise21Test {
    private static final Check C = Check.ofPromise(21);

    public static void main(String[] args) {
        C.says("fencer: a FENCER");
        Pommel p = Scene.pool(4);
        Scene.fence(p, 2, 5, 1);
        C.same("the first one", p.voidWith(0), 1);
        C.same("the last one", p.voidWith(3), 1);
        C.same("another one", p.voidWith(1), 0);
        C.says("Returns how many BOUTS of the POOLS would not count any more, that are OVER, if it had"
                + " a BLACK CARD in one:");
        Scene.fence(p, 0, 5, 1);
        C.same("two are over", p.voidWith(0), 2);
        Scene.begin(p, 3);
        C.same("a live one is not over", p.voidWith(2), 0);
        int before = p.many(5);
        long sum = p.digest();
        int asked = p.voidWith(1);
        C.same("nothing is changed", p.digest(), sum);
        p.card(0, 0, 2);
        C.same("as it comes", before - p.many(5), asked);
        C.same("out", p.voidWith(1), 0);
        C.same("one of two is void", p.voidWith(0), 1);
        C.same("all of the most", Scene.fenced(16).voidWith(15), 15);
        C.same("not formed", Scene.fencers(16).voidWith(0), 0);
        C.says("its MET, also as the TABLE is drawn.");
        Pommel t = Scene.table(4);
        for (int fencer = 0; fencer < 4; fencer++) {
            C.same("MET", t.voidWith(fencer), 3);
        }
        Scene.winInTable(t, 6, 0);
        C.same("the table does not count", t.voidWith(0), 3);
        Scene.winInTable(t, 7, 0);
        Scene.begin(t, 8);
        t.card(0, 0, 2);
        C.same("out in the table", t.voidWith(0), 3);
        C.same("the other one", t.voidWith(1), 3);
        C.same("its MET", t.order(0, 0), 3);
        C.says("Throws IndexOutOfBoundsException if there is no such FENCER");
        C.noIndex("voidWith", p, n -> p.voidWith(n), -1, 4, Scene.LEAST, Scene.MOST);
        Pommel none = new Pommel();
        C.noIndex("of a new one", none, n -> none.voidWith(n), -1, 0);
        Pommel full = Scene.fencers(16);
        C.noIndex("of sixteen", full, n -> full.voidWith(n), 16);
        C.end();
    }
}
