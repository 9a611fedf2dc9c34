/** Promise 16: place. Who is ahead is in a test of the terms 6. */
final class Promise16Test {
    private static final Check C = Check.ofPromise(16);

    public static void main(String[] args) {
        C.says("fencer: a FENCER");
        Pommel p = Scene.table(3);
        Scene.winInTable(p, 4, 1);
        C.same("the first one", p.place(0), 0);
        C.same("the last one", p.place(2), 1);
        C.same("the one who lost", p.place(1), 2);
        C.says("Returns its PLACE.");
        Scene.winInTable(p, 5, 1);
        C.same("who won", p.place(2), 0);
        C.same("who lost the last one", p.place(0), 1);
        C.same("who lost before", p.place(1), 2);
        C.same("the only one", Scene.fencers(1).place(0), 0);
        Pommel full = Scene.fencers(16);
        for (int fencer = 0; fencer < 16; fencer++) {
            C.same("of sixteen", full.place(fencer), fencer);
        }
        Pommel table = Scene.fullTable();
        boolean[] seen = new boolean[16];
        table.pass(120);
        for (int bout = 24; bout < 39; bout++) {
            table.start(bout, 0);
            table.card(0, bout % 2, bout % 3 == 0 ? 2 : 1);
            table.pass(600);
            table.pass(60);
        }
        for (int fencer = 0; fencer < 16; fencer++) {
            seen[table.place(fencer)] = true;
        }
        for (int place = 0; place < 16; place++) {
            C.yes("one has the place " + place, seen[place]);
        }
        C.says("Throws IndexOutOfBoundsException if there is no such FENCER");
        C.noIndex("place", p, n -> p.place(n), -1, 3, Scene.LEAST, Scene.MOST);
        C.noIndex("of sixteen", full, n -> full.place(n), -1, 16);
        Pommel none = new Pommel();
        C.noIndex("of a new one", none, n -> none.place(n), -1, 0);
        C.end();
    }
}
