/** Promise 15: line. Which seeds the lines have is in a test of the terms 5. */
final class Promise15Test {
    private static final Check C = Check.ofPromise(15);

    public static void main(String[] args) {
        C.says("line: a LINE of the TABLE, from 0");
        Pommel full = Scene.fullTable();
        C.same("the first one", full.line(0), 0);
        C.same("the second one", full.line(1), 15);
        C.same("the last one", full.line(15), 10);
        C.says("Returns the FENCER with that SEED which is the LINE there;");
        Pommel p = Scene.pool(3);
        // The order is 2, 1, 0: the seeds are not the numbers.
        for (int bout = 0; bout < 3; bout++) {
            Scene.fence(p, bout, 0, 5);
        }
        C.noIndex("not drawn yet", p, n -> p.line(n), 0);
        p.draw(0);
        C.same("seed 0", p.line(0), 2);
        C.same("seed 1", p.line(2), 1);
        C.same("seed 2", p.line(3), 0);
        Scene.begin(p, 4);
        p.card(0, 0, 2);
        C.same("seed 1, who is out now", p.line(2), 1);
        C.same("seed 2", p.line(3), 0);
        C.says("NONE without such a SEED.");
        C.same("seed 3 of three", p.line(1), -1);
        Pommel five = Scene.table(5);
        for (int line : new int[] {1, 5, 7}) {
            C.same("seeds 5, 6, 7 of five", five.line(line), -1);
        }
        Pommel nine = Scene.table(9);
        C.same("seed 15 of nine", nine.line(1), -1);
        C.same("seed 8 of nine", nine.line(3), 8);
        Pommel cut = Scene.fenced(4);
        cut.draw(25);
        C.same("the fencer 3 is cut", cut.line(1), -1);
        C.says("Throws IndexOutOfBoundsException if there is no such LINE,");
        C.noIndex("of sixteen", full, n -> full.line(n), -1, 16, Scene.LEAST, Scene.MOST);
        C.noIndex("of eight", five, n -> five.line(n), -1, 8, 15);
        C.noIndex("of four", p, n -> p.line(n), -1, 4, 5, 15, 16);
        Pommel two = Scene.fenced(3);
        C.says("or the TABLE is not drawn");
        C.noIndex("at the end of the pools", two, n -> two.line(n), -1, 0, 1);
        Pommel none = new Pommel();
        C.noIndex("of a new one", none, n -> none.line(n), -1, 0, 15);
        two.draw(50);
        C.same("the last one of two", two.line(1), 1);
        C.noIndex("of two", two, n -> two.line(n), -1, 2);
        C.end();
    }
}
