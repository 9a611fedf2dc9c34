/** Promise 15: line. */
final class Promise15Test {
    private static final Check C = new Check("promise 15");

    public static void main(String[] args) {
        lines(Scene.table(3), 0, -1, 1, 2);
        lines(Scene.table(4), 0, 3, 1, 2);
        lines(Scene.table(6), 0, -1, 3, 4, 1, -1, 2, 5);
        lines(Scene.table(9), 0, -1, 7, 8, 3, -1, 4, -1, 1, -1, 6, -1, 2, -1, 5, -1);
        lines(Scene.fullTable(), 0, 15, 7, 8, 3, 12, 4, 11, 1, 14, 6, 9, 2, 13, 5, 10);
        Pommel two = Scene.pool(3);
        two.start(0, 0);
        two.card(0, 0, 2);
        C.noIndex("not drawn", two, n -> two.line(n), -1, 0, 1);
        Scene.fence(two, 2, 1, 5);
        C.same("draw", two.draw(0), 2);
        // Seeds are places in the order, not numbers; they stay as the table was drawn.
        lines(two, 2, 1);
        Scene.begin(two, 3);
        two.card(0, 0, 2);
        lines(two, 2, 1);
        C.end();
    }

    private static void lines(Pommel p, int... due) {
        for (int line = 0; line < due.length; line++) {
            C.same("line(" + line + ")", p.line(line), due[line]);
        }
        C.noIndex("line", p, n -> p.line(n), -1, due.length, Integer.MIN_VALUE,
                Integer.MAX_VALUE);
    }
}
