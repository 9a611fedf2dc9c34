/** Terms 3: what a bout is. */
final class Terms3BoutTest {
    private static final Check C = Check.ofLines("Terms 3", "3 A BOUT WAITS (0)");

    public static void main(String[] args) {
        states();
        goals();
        scores();
        C.end();
    }

    private static void states() {
        C.says("3 A BOUT WAITS (0), is LIVE (1), on a PISTE (0 to 2), OVER (2), or VOID (3).");
        Pommel p = Scene.pool(8);
        for (int bout = 0; bout < 28; bout++) {
            C.same("waits", p.ofBout(bout, 0), 0);
            C.same("no piste", p.ofBout(bout, 6), -1);
        }
        int[] four = {Scene.bout(8, 0, 1), Scene.bout(8, 2, 3), Scene.bout(8, 4, 5),
            Scene.bout(8, 6, 7)};
        C.illegal("piste", p, n -> p.start(four[0], n), -1, 3, Scene.LEAST, Scene.MOST);
        for (int piste = 0; piste < 3; piste++) {
            p.start(four[piste], piste);
            C.same("is live", p.ofBout(four[piste], 0), 1);
            C.same("piste", p.ofBout(four[piste], 6), piste);
        }
        for (int piste = 0; piste < 3; piste++) {
            int taken = piste;
            C.refuses("all pistes are taken", p, () -> p.start(four[3], taken));
        }
        C.illegal("there is no other piste", p, n -> p.start(four[3], n), 3);
        Scene.hits(p, 1, 0, 5);
        C.same("over", p.ofBout(four[1], 0), 2);
        C.same("no piste", p.ofBout(four[1], 6), -1);
        p.start(four[3], 1);
        C.same("the piste is free by the goal", p.ofBout(four[3], 6), 1);
        p.card(1, 0, 2);
        C.same("void", p.ofBout(four[3], 0), 3);
        C.same("no piste", p.ofBout(four[3], 6), -1);
        p.pass(120);
        p.start(Scene.bout(8, 2, 7), 1);
        C.same("the piste is free by the black card", p.ofBout(Scene.bout(8, 2, 7), 6), 1);
    }

    private static void goals() {
        C.says("Its GOAL is 5, in one PERIOD of 180 seconds;");
        for (int who = 0; who < 2; who++) {
            Pommel p = Scene.pool(3);
            p.start(0, 0);
            C.same("seconds", p.ofBout(0, 7), 180);
            C.same("period", p.ofBout(0, 8), 1);
            Scene.hits(p, 0, who, 4);
            C.same("four are not enough", p.ofBout(0, 0), 1);
            p.hit(0, who);
            C.same("five are", p.ofBout(0, 0), 2);
            C.same("the goal", p.ofBout(0, 3 + who), 5);
            Pommel time = Scene.pool(3);
            time.start(0, 0);
            time.hit(0, who);
            C.same("pass(179)", time.pass(179), 0);
            C.same("pass(1)", time.pass(1), 1);
        }
        C.says("in the TABLE 15, in three.");
        for (int who = 0; who < 2; who++) {
            Pommel p = Scene.table(3);
            Scene.begin(p, 4);
            C.same("seconds", p.ofBout(4, 7), 180);
            C.same("period", p.ofBout(4, 8), 1);
            Scene.hits(p, 0, who, 14);
            C.same("fourteen are not enough", p.ofBout(4, 0), 1);
            p.hit(0, who);
            C.same("fifteen are", p.ofBout(4, 0), 2);
            C.same("the goal", p.ofBout(4, 3 + who), 15);
            Pommel time = Scene.table(3);
            Scene.begin(time, 4);
            time.hit(0, who);
            C.same("pass(539)", time.pass(539), 0);
            C.same("pass(1)", time.pass(1), 1);
        }
    }

    private static void scores() {
        C.says("It has a SCORE of each one, 0 at first.");
        Pommel p = Scene.table(5);
        for (int bout = 10; bout < 17; bout++) {
            C.same("left", p.ofBout(bout, 3), 0);
            C.same("right", p.ofBout(bout, 4), 0);
        }
        Scene.begin(p, 11);
        C.same("left, as it starts", p.ofBout(11, 3), 0);
        C.same("right, as it starts", p.ofBout(11, 4), 0);
        Scene.hits(p, 0, 0, 2);
        p.hit(0, 1);
        C.same("left", p.ofBout(11, 3), 2);
        C.same("right", p.ofBout(11, 4), 1);
        p.pass(600);
        p.pass(60);
        p.start(14, 0);
        C.same("left in the next one", p.ofBout(14, 3), 0);
        C.same("right in the next one", p.ofBout(14, 4), 0);
    }
}
