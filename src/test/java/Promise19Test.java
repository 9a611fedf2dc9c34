/** Promise 19: meet. */
final class Promise19Test {
    private static final Check C = new Check("promise 19");

    public static void main(String[] args) {
        Pommel p = Scene.fullTable();
        int[] lines = {0, 15, 7, 8, 3, 12, 4, 11, 1, 14, 6, 9, 2, 13, 5, 10};
        for (int i = 0; i < 16; i++) {
            for (int k = 0; k < 16; k++) {
                if (i != k) {
                    int due = i / 2 == k / 2 ? 0 : i / 4 == k / 4 ? 1 : i / 8 == k / 8 ? 2 : 3;
                    C.same("meet(" + lines[i] + ", " + lines[k] + ")",
                            p.meet(lines[i], lines[k]), due);
                }
            }
        }
        Pommel early = Scene.pool(3);
        C.same("not drawn", early.meet(0, 1), -1);
        C.noIndex("meet(n, 0)", early, n -> early.meet(n, 0), -1, 3, Integer.MIN_VALUE,
                Integer.MAX_VALUE);
        C.noIndex("meet(0, n)", early, n -> early.meet(0, n), -1, 3, Integer.MIN_VALUE,
                Integer.MAX_VALUE);
        C.noIndex("meet(n, n)", early, n -> early.meet(n, n), -1, 3);
        C.range("meet(n, n)", early, n -> early.meet(n, n), 0, 1, 2);
        Scene.fencePools(early);
        early.draw(34);
        C.same("they are all", early.meet(0, 1), 0);
        C.same("not in it", early.meet(0, 2), -1);
        C.same("not in it", early.meet(2, 1), -1);
        Pommel over = Scene.table(4);
        Scene.winInTable(over, 6, 1);
        C.same("whatever was", over.meet(0, 1), 1);
        C.same("whatever was", over.meet(0, 3), 0);
        Pommel small = Scene.table(3);
        C.same("without a bout before", small.meet(0, 2), 1);
        C.end();
    }
}
