/** Promise 2: fencer. */
final class Promise02Test {
    private static final Check C = Check.ofPromise(2);

    public static void main(String[] args) {
        C.says("A FENCER comes.");
        Pommel p = new Pommel();
        p.fencer(0, 0);
        C.same("many(0)", p.many(0), 1);
        C.says("rank: its RANK");
        p.fencer(99, 5);
        C.same("of the first one", p.of(0, 0), 0);
        C.same("of the second one", p.of(1, 0), 99);
        C.says("club: its CLUB");
        C.same("of the first one", p.of(0, 1), 0);
        C.same("of the second one", p.of(1, 1), 5);
        C.says("Returns its number.");
        for (int i = 2; i < 15; i++) {
            C.same("fencer", p.fencer(7, 3), i);
        }
        C.says("Throws IllegalArgumentException if rank is not 0 to 99, or club is not 0 to 5");
        C.illegal("fencer(rank, 0)", p, n -> p.fencer(n, 0), -1, 100, Scene.LEAST, Scene.MOST);
        C.illegal("fencer(0, club)", p, n -> p.fencer(0, n), -1, 6, Scene.LEAST, Scene.MOST);
        C.illegal("both", p, n -> p.fencer(n, n), -1, 100);
        C.same("none came", p.many(0), 15);
        C.same("the last one that there can be", p.fencer(99, 0), 15);
        C.says("Throws IllegalStateException if there are 16, or POOLS are formed");
        C.refuses("the 17th", p, () -> p.fencer(7, 3));
        C.illegal("the 17th, wrong rank", p, n -> p.fencer(n, 3), 100);
        Pommel formed = Scene.pool(3);
        C.refuses("formed", formed, () -> formed.fencer(7, 3));
        C.illegal("formed, wrong club", formed, n -> formed.fencer(7, n), 6);
        Pommel fullAndFormed = Scene.pool(16);
        C.refuses("full and formed", fullAndFormed, () -> fullAndFormed.fencer(7, 3));
        Pommel drawn = Scene.table(3);
        C.refuses("drawn", drawn, () -> drawn.fencer(7, 3));
        C.end();
    }
}
