/** Promise 14: draw. Who is in the table, and where, is in the tests of the terms 5. */
final class Promise14Test {
    private static final Check C = Check.ofPromise(14);

    public static void main(String[] args) {
        draws();
        wrongCut();
        refused();
        C.end();
    }

    private static void draws() {
        C.says("Draws the TABLE.");
        Pommel p = Scene.fenced(4);
        C.noIndex("no line", p, n -> p.line(n), 0);
        p.draw(0);
        C.same("size", p.many(9), 4);
        C.same("bouts", p.many(2), 9);
        C.same("the first line", p.line(0), 0);
        C.same("who meets whom", p.meet(0, 3), 0);
        C.says("cut: CUT");
        Pommel all = Scene.fenced(4);
        all.draw(24);
        C.same("24 of 100 of four are none", all.line(1), 3);
        Pommel less = Scene.fenced(4);
        less.draw(25);
        C.same("25 of 100 of four are one", less.line(1), -1);
        C.same("three are in it", less.many(9), 4);
        Pommel half = Scene.fenced(4);
        half.draw(50);
        C.same("50 of 100 of four are two", half.many(9), 2);
        C.says("Returns how many are in it.");
        for (int count = 3; count <= 16; count++) {
            C.same("draw(0) of " + count, Scene.fenced(count).draw(0), count);
            C.same("draw(50) of " + count, Scene.fenced(count).draw(50), count - count / 2);
        }
        C.same("of two", Scene.twoLeft().draw(0), 2);
        C.same("draw(1) of sixteen", Scene.fenced(16).draw(1), 16);
    }

    private static void wrongCut() {
        C.says("Throws IllegalArgumentException if cut is not 0 to 50");
        Pommel p = Scene.fenced(4);
        C.illegal("draw", p, n -> p.draw(n), -1, 51, Scene.LEAST, Scene.MOST);
        Pommel none = new Pommel();
        C.illegal("of a new one", none, n -> none.draw(n), -1, 51);
        p.draw(50);
        C.illegal("drawn", p, n -> p.draw(n), -1, 51);
    }

    private static void refused() {
        C.says("Throws IllegalStateException if POOLS are not formed,");
        Pommel none = new Pommel();
        C.refuses("of a new one", none, () -> none.draw(0));
        Pommel some = Scene.fencers(3);
        C.refuses("not formed", some, () -> some.draw(0));
        C.refuses("not formed, with a cut", some, () -> some.draw(50));
        C.says("a BOUT of these WAITS or is LIVE,");
        Pommel p = Scene.pool(3);
        C.refuses("all wait", p, () -> p.draw(0));
        Scene.fence(p, 0, 5, 0);
        Scene.fence(p, 2, 5, 0);
        C.refuses("one waits", p, () -> p.draw(0));
        Scene.begin(p, 1);
        C.refuses("one is live", p, () -> p.draw(0));
        p.pass(180);
        C.refuses("one is live in its extra minute", p, () -> p.draw(0));
        p.hit(0, 0);
        C.same("all are over", p.draw(0), 3);
        C.says("it is drawn already,");
        C.refuses("drawn", p, () -> p.draw(0));
        Scene.begin(p, 4);
        C.refuses("drawn, and one is live", p, () -> p.draw(0));
        Scene.hits(p, 0, 0, 15);
        Scene.winInTable(p, 5, 0);
        C.refuses("drawn, and all are over", p, () -> p.draw(0));
        C.says("or there are fewer than 2 to be in it");
        Pommel one = Scene.pool(3);
        one.start(0, 0);
        one.card(0, 0, 2);
        Scene.begin(one, 2);
        one.card(0, 0, 2);
        C.refuses("one is left", one, () -> one.draw(0));
        Pommel two = Scene.twoLeft();
        C.refuses("one of two", two, () -> two.draw(50));
        C.same("two of two", two.draw(49), 2);
    }
}
