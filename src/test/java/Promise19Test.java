/** Promise 19: meet. */
final class Promise19Test {
    private static final Check C = Check.ofPromise(19);

    public static void main(String[] args) {
        which();
        rounds();
        whateverWas();
        notInIt();
        wrongOnes();
        C.end();
    }

    private static void which() {
        C.says("one: a FENCER");
        Pommel p = Scene.table(4);
        // The lines are 0, 3, 1, 2.
        C.same("the first one", p.meet(0, 3), 0);
        C.same("another one", p.meet(2, 3), 1);
        C.says("other: another one");
        C.same("the first one", p.meet(3, 0), 0);
        C.same("another one", p.meet(3, 2), 1);
        C.same("the last one", p.meet(1, 2), 0);
    }

    private static void rounds() {
        C.says("Returns the round of the TABLE in which they meet,");
        Pommel p = Scene.fullTable();
        int[] lines = {0, 15, 7, 8, 3, 12, 4, 11, 1, 14, 6, 9, 2, 13, 5, 10};
        for (int i = 0; i < 16; i++) {
            for (int k = i + 1; k < 16; k++) {
                int due = i / 2 == k / 2 ? 0 : i / 4 == k / 4 ? 1 : i / 8 == k / 8 ? 2 : 3;
                C.same("meet(" + lines[i] + ", " + lines[k] + ")", p.meet(lines[i], lines[k]), due);
                C.same("meet(" + lines[k] + ", " + lines[i] + ")", p.meet(lines[k], lines[i]), due);
            }
        }
        Pommel two = Scene.fenced(3);
        two.draw(50);
        C.same("of two", two.meet(0, 1), 0);
        C.same("the other way", two.meet(1, 0), 0);
        // Of five the seeds 1 and 2 are alone in the round 0.
        Pommel five = Scene.table(5);
        C.same("in the round 1, without one before", five.meet(1, 2), 1);
        C.same("in the last round", five.meet(0, 2), 2);
        C.same("in the first round", five.meet(3, 4), 0);
        C.same("in the round 1", five.meet(0, 4), 1);
    }

    private static void whateverWas() {
        C.says("if both win all until then, whatever was;");
        Pommel p = Scene.table(4);
        Scene.winInTable(p, 6, 1);
        C.same("0 lost to 3", p.meet(0, 3), 0);
        C.same("0 lost, and would meet 1", p.meet(0, 1), 1);
        Scene.begin(p, 7);
        p.card(0, 0, 2);
        C.same("1 is out", p.meet(0, 1), 1);
        C.same("1 is out", p.meet(1, 2), 0);
        Scene.winInTable(p, 8, 0);
        C.same("all is over", p.meet(0, 1), 1);
        C.same("all is over", p.meet(3, 2), 1);
    }

    private static void notInIt() {
        C.says("NONE if one of them is not in it, or the TABLE is not drawn.");
        Pommel p = Scene.fenced(4);
        C.same("not drawn", p.meet(0, 1), -1);
        C.same("not formed", Scene.fencers(2).meet(0, 1), -1);
        p.draw(50);
        C.same("both are", p.meet(0, 1), 0);
        C.same("the other one is not", p.meet(0, 2), -1);
        C.same("the one is not", p.meet(3, 1), -1);
        C.same("both are not", p.meet(2, 3), -1);
        Pommel out = Scene.twoLeft();
        out.draw(0);
        C.same("one is out of the pool", out.meet(0, 1), -1);
        C.same("the others", out.meet(2, 1), 0);
    }

    private static void wrongOnes() {
        C.says("Throws IndexOutOfBoundsException if there is no such FENCER");
        Pommel p = Scene.pool(3);
        C.noIndex("meet(n, 0)", p, n -> p.meet(n, 0), -1, 3, Scene.LEAST, Scene.MOST);
        C.noIndex("meet(0, n)", p, n -> p.meet(0, n), -1, 3, Scene.LEAST, Scene.MOST);
        C.noIndex("meet(n, n)", p, n -> p.meet(n, n), -1, 3);
        Pommel none = new Pommel();
        C.noIndex("of a new one", none, n -> none.meet(n, 1), 0);
        Pommel t = Scene.table(3);
        C.noIndex("drawn", t, n -> t.meet(n, 0), -1, 3);
        C.noIndex("drawn, the other one", t, n -> t.meet(0, n), -1, 3);
        C.says("Throws IllegalArgumentException if they are the same");
        C.illegal("meet(n, n)", p, n -> p.meet(n, n), 0, 1, 2);
        C.illegal("drawn", t, n -> t.meet(n, n), 0, 1, 2);
        Pommel cut = Scene.fenced(3);
        cut.draw(50);
        C.illegal("not in it", cut, n -> cut.meet(n, n), 2);
    }
}
