/** Terms 1: fencers. */
final class Terms1FencersTest {
    private static final Check C = Check.ofLines("Terms 1", "1 FENCERS: ");

    public static void main(String[] args) {
        numbers();
        ranksAndClubs();
        now();
        C.end();
    }

    private static void numbers() {
        C.says("1 FENCERS: at most 16, numbered from 0,");
        Pommel p = new Pommel();
        C.same("many(0) of none", p.many(0), 0);
        for (int i = 0; i < 16; i++) {
            C.illegal("fencer", p, n -> p.fencer(n, 0), 100);
            C.same("a refused one takes no number", p.fencer(0, 0), i);
            C.same("many(0)", p.many(0), i + 1);
        }
        C.refuses("the 17th", p, () -> p.fencer(0, 0));
        C.refuses("the 17th again", p, () -> p.fencer(99, 5));
        C.same("many(0)", p.many(0), 16);
        C.same("the first one", p.order(0, 4), 0);
        C.same("the last one", p.order(15, 4), 15);
        C.noIndex("of(n, 0)", p, n -> p.of(n, 0), -1, 16);
    }

    private static void ranksAndClubs() {
        C.says("each with a RANK, 0 to 99, and a CLUB, 0 to 5.");
        Pommel p = new Pommel();
        int[][] due = {{0, 0}, {99, 5}, {0, 5}, {99, 0}, {50, 3}, {1, 1}, {98, 4}};
        for (int i = 0; i < due.length; i++) {
            C.same("fencer", p.fencer(due[i][0], due[i][1]), i);
            C.same("rank", p.of(i, 0), due[i][0]);
            C.same("club", p.of(i, 1), due[i][1]);
        }
        C.illegal("rank", p, n -> p.fencer(n, 0), -1, 100, Scene.LEAST, Scene.MOST);
        C.illegal("club", p, n -> p.fencer(0, n), -1, 6, Scene.LEAST, Scene.MOST);
        C.same("many(0)", p.many(0), due.length);
    }

    private static void now() {
        C.says("NOW, in seconds, is 0 at first.");
        Pommel p = new Pommel();
        C.same("many(7)", p.many(7), 0);
        p.pass(1);
        C.same("many(7)", p.many(7), 1);
        p.pass(600);
        C.same("many(7)", p.many(7), 601);
        C.illegal("pass", p, n -> p.pass(n), 0, 601);
        C.same("many(7)", p.many(7), 601);
        C.same("of a new one", new Pommel().many(7), 0);
    }
}
