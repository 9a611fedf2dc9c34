/** Promise 11: next. */
final class Promise11Test {
    private static final Check C = Check.ofPromise(11);

    public static void main(String[] args) {
        longest();
        smallestNumber();
        noneReady();
        C.end();
    }

    private static void longest() {
        C.says("Returns the BOUT that is READY whose FENCERS have both rested the longest: the greater"
                + " one of both their of() 6 is the smallest,");
        Pommel p = Scene.pool(5);
        // The bouts are 0-1, 0-2, 0-3, 1-2, 0-4, 1-3, 1-4, 2-3, 2-4, 3-4.
        p.start(0, 0);
        Scene.hits(p, 0, 0, 5);
        p.pass(50);
        p.start(7, 1);
        Scene.hits(p, 1, 0, 5);
        C.same("none has rested but 4", p.next(), -1);
        p.pass(69);
        C.same("0 and 1 need a second", p.next(), -1);
        p.pass(1);
        C.same("0 and 1 have rested", p.next(), 4);
        p.pass(50);
        // 4: 0-4 has 120, the bouts 1, 2, 3 of 2 and 3 with 0 and 1 have 170.
        C.same("the greater one counts", p.next(), 4);
        p.start(4, 2);
        // 0 and 4 are live; 1-2 and 1-3 have 170, as has 2-4 not.
        C.same("of those that are ready", p.next(), 3);
        Scene.hits(p, 2, 1, 5);
        p.pass(120);
        // 0 and 4 have 290 now, 1 has 120, 2 and 3 have 170.
        C.same("the ones that have just rested are last", p.next(), 3);
        p.start(3, 0);
        Scene.hits(p, 0, 1, 5);
        p.pass(120);
        // 1 and 2 have 410 now, 0 and 4 have 290, 3 has 170: 0-3 and 3-4 have 290.
        C.same("0-3", p.next(), 2);
        p.start(2, 0);
        C.same("3 is live: 1-4 and 2-4 have 410", p.next(), 6);
        // One later bout of two that are ready has the smaller rest.
        Pommel later = Scene.pool(4);
        later.start(0, 0);
        Scene.hits(later, 0, 0, 5);
        later.pass(120);
        C.same("5 is of those that never fenced", later.next(), 5);
        Pommel t = Scene.table(4);
        t.pass(600);
        // 6 is 0-3, 7 is 1-2: the last bout of the pool was 2-3, that before 1-3.
        int left = Math.max(t.of(0, 6), t.of(3, 6));
        int right = Math.max(t.of(1, 6), t.of(2, 6));
        C.same("the same for both", left, right);
        C.same("the first one of the table", t.next(), 6);
    }

    private static void smallestNumber() {
        C.says("of several BOUTS the smallest number;");
        Pommel p = Scene.pool(5);
        C.same("all the same", p.next(), 0);
        p.start(0, 0);
        C.same("of 7, 8, 9", p.next(), 7);
        p.start(7, 1);
        Scene.hits(p, 0, 0, 5);
        Scene.hits(p, 1, 0, 5);
        p.pass(120);
        // All but 4 have 120: 1 to 6 and 8, 9 are the same.
        C.same("of many", p.next(), 1);
        p.start(1, 0);
        C.same("of 5, 6, 9", p.next(), 5);
        Pommel full = Scene.pool(16);
        C.same("of 120", full.next(), 0);
        Pommel four = Scene.fencers(12);
        four.form(4);
        four.start(0, 0);
        four.start(3, 1);
        C.same("of the pools 2 and 3", four.next(), 6);
    }

    private static void noneReady() {
        C.says("NONE if none is READY.");
        C.same("of a new one", new Pommel().next(), -1);
        C.same("not formed", Scene.fencers(16).next(), -1);
        Pommel p = Scene.pool(3);
        p.start(0, 0);
        C.same("one in each is live", p.next(), -1);
        Scene.hits(p, 0, 0, 5);
        p.pass(119);
        C.same("one in each has not rested", p.next(), -1);
        p.pass(1);
        C.same("rested", p.next(), 1);
        p.start(1, 0);
        p.card(0, 0, 2);
        p.pass(600);
        C.same("the last one", p.next(), 2);
        p.start(2, 0);
        p.pass(600);
        C.same("all are over or void", p.next(), -1);
        Pommel t = Scene.table(3);
        C.same("of the table", t.next(), 4);
        t.start(4, 0);
        C.same("one is not known", t.next(), -1);
        Scene.hits(t, 0, 0, 15);
        C.same("one has not rested", t.next(), -1);
        t.pass(120);
        C.same("the last one", t.next(), 5);
        t.start(5, 0);
        Scene.hits(t, 0, 0, 15);
        t.pass(600);
        C.same("the table is won", t.next(), -1);
    }
}
