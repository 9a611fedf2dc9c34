import java.util.ArrayList;
import java.util.List;
import java.util.function.Consumer;

/** What the document says of all calls. */
final class GeneralTest {
    private static final Check C = Check.ofLines("General", "An object is used for at most 512 calls",
            "All numbers are whole", "A method that throws an exception changes nothing");

    /** A call, by its name. */
    private record Call(String name, Consumer<Pommel> on) {
    }

    public static void main(String[] args) {
        calls();
        wholeNumbers();
        none();
        nothingChanged();
        firstNamed();
        C.end();
    }

    private static void calls() {
        C.says("An object is used for at most 512 calls after it has been made;");
        // The most bouts that there can be: all of them are fenced, and the table is won.
        Pommel p = Scene.fenced(16);
        Naive due = naiveOfSixteen();
        C.same("draw(0)", p.draw(0), due.draw(0));
        p.pass(600);
        due.pass(600);
        for (int bout = 120; bout < 135; bout++) {
            p.start(bout, 0);
            due.start(bout, 0);
            p.card(0, bout % 2, 1);
            due.card(0, bout % 2, 1);
            p.pass(600);
            due.pass(600);
            p.pass(60);
            due.pass(60);
        }
        // 378 calls, and 62 behind them; with those here and the last one they are 512.
        for (int call = 440; call < 511; call++) {
            C.same("pass(600)", p.pass(600), 0);
            due.pass(600);
        }
        C.same("the 512th call", p.digest(), due.digest());
        Pommel time = new Pommel();
        for (int call = 1; call < 512; call++) {
            time.pass(600);
        }
        C.same("the latest time", time.many(7), 511 * 600);
        Pommel refused = new Pommel();
        for (int call = 1; call < 512; call++) {
            try {
                refused.fencer(-1, 0);
            } catch (IllegalArgumentException e) {
                // Refused, as it should be.
            }
        }
        C.same("a fencer behind 511 refused ones", refused.fencer(0, 0), 0);
        C.free("what later calls answer is free.");
    }

    private static Naive naiveOfSixteen() {
        Naive naive = new Naive();
        for (int i = 0; i < 16; i++) {
            naive.fencer(i, i % 6);
        }
        naive.form(1);
        for (int bout = 0; bout < 120; bout++) {
            naive.start(bout, 0);
            naive.hit(0, 0);
            naive.pass(300);
        }
        return naive;
    }

    private static void wholeNumbers() {
        C.says("All numbers are whole, if nothing else is said. / is cut towards 0; % is what is left"
                + " by it.");
        // 7 * 42 / 100 is 2.94, and 3 * 33 / 100 is 0.99.
        C.same("cut of seven", Scene.fenced(7).draw(42), 5);
        C.same("cut of three", Scene.fenced(3).draw(33), 3);
    }

    private static void none() {
        C.says("NONE is -1.");
        Pommel p = new Pommel();
        C.same("next()", p.next(), -1);
        C.same("many(10)", p.many(10), -1);
        p.fencer(0, 0);
        C.same("pool", p.of(0, 2), -1);
        C.same("spot", p.of(0, 3), -1);
        C.same("live bout", p.of(0, 5), -1);
        Pommel t = Scene.table(3);
        C.same("no left one known yet", Scene.table(4).ofBout(8, 1), -1);
        C.same("no right one", t.ofBout(3, 2), -1);
        C.same("winner", t.ofBout(4, 5), -1);
        C.same("piste", t.ofBout(4, 6), -1);
        C.same("priority", t.ofBout(4, 9), -1);
        C.same("line", t.line(1), -1);
        C.same("meet", Scene.fenced(3).meet(0, 1), -1);
        t.start(4, 0);
        C.same("winnerIn", t.winnerIn(0, 1), -1);
    }

    /** Behind each call of a tournament each call that throws is tried, and all goes on as without it. */
    private static void nothingChanged() {
        C.says("A method that throws an exception changes nothing.");
        List<Call> story = story();
        List<Call> tries = tries();
        List<Long> due = rest(played(story, 0), story, 0);
        int refused = 0;
        for (int from = 0; from <= story.size(); from++) {
            for (Call call : tries) {
                Pommel p = played(story, from);
                if (throwsOn(p, call)) {
                    refused++;
                    C.yes(call.name + " behind " + from + " calls",
                            rest(p, story, from).equals(due.subList(from, due.size())));
                }
            }
        }
        C.yes("many are refused: " + refused, refused > 2000);
    }

    /** Four of a pool, of whom one is out, then a table of three. */
    private static List<Call> story() {
        List<Call> story = new ArrayList<>();
        for (int i = 0; i < 4; i++) {
            int rank = 9 - i;
            add(story, "fencer", p -> p.fencer(rank, 2));
        }
        add(story, "form(1)", p -> p.form(1));
        add(story, "start(0, 1)", p -> p.start(0, 1));
        add(story, "card", p -> p.card(1, 0, 0));
        add(story, "card", p -> p.card(1, 0, 0));
        add(story, "start(5, 0)", p -> p.start(5, 0));
        add(story, "pass(180)", p -> p.pass(180));
        add(story, "hit(0, 2)", p -> p.hit(0, 2));
        add(story, "pass(600)", p -> p.pass(600));
        add(story, "start(1, 2)", p -> p.start(1, 2));
        add(story, "card", p -> p.card(2, 1, 2));
        add(story, "pass(600)", p -> p.pass(600));
        for (int bout : new int[] {2, 4}) {
            add(story, "start", p -> p.start(bout, 0));
            add(story, "hit(0, 1)", p -> p.hit(0, 1));
            add(story, "pass(600)", p -> p.pass(600));
        }
        add(story, "draw(0)", p -> p.draw(0));
        add(story, "start(7, 0)", p -> p.start(7, 0));
        add(story, "pass(541)", p -> p.pass(541));
        add(story, "card", p -> p.card(0, 1, 1));
        add(story, "pass(120)", p -> p.pass(120));
        add(story, "start(8, 1)", p -> p.start(8, 1));
        add(story, "hit(1, 1)", p -> p.hit(1, 1));
        add(story, "card", p -> p.card(1, 1, 2));
        return story;
    }

    /** Calls at the edges of what each method takes, of which most are refused at some time. */
    private static List<Call> tries() {
        List<Call> tries = new ArrayList<>();
        int[] edges = {-1, 0, 1, 2, 3, 4, 6, 9, 601};
        for (int n : edges) {
            add(tries, "fencer(" + n + ", 5)", p -> p.fencer(n, 5));
            add(tries, "fencer(99, " + n + ")", p -> p.fencer(99, n));
            add(tries, "form(" + n + ")", p -> p.form(n));
            add(tries, "of(" + n + ", 0)", p -> p.of(n, 0));
            add(tries, "of(0, " + n + ")", p -> p.of(0, n));
            add(tries, "start(" + n + ", 0)", p -> p.start(n, 0));
            add(tries, "start(" + n + ", 1)", p -> p.start(n, 1));
            add(tries, "start(0, " + n + ")", p -> p.start(0, n));
            add(tries, "pass(" + n + ")", p -> p.pass(n));
            add(tries, "hit(" + n + ", 2)", p -> p.hit(n, 2));
            add(tries, "hit(1, " + n + ")", p -> p.hit(1, n));
            add(tries, "card(" + n + ", 0, 2)", p -> p.card(n, 0, 2));
            add(tries, "card(1, " + n + ", 2)", p -> p.card(1, n, 2));
            add(tries, "card(1, 0, " + n + ")", p -> p.card(1, 0, n));
            add(tries, "ofBout(" + n + ", 0)", p -> p.ofBout(n, 0));
            add(tries, "reason(" + n + ")", p -> p.reason(n));
            add(tries, "many(" + n + ")", p -> p.many(n));
            add(tries, "order(" + n + ", 4)", p -> p.order(n, 4));
            add(tries, "draw(" + n + ")", p -> p.draw(n));
            add(tries, "line(" + n + ")", p -> p.line(n));
            add(tries, "place(" + n + ")", p -> p.place(n));
            add(tries, "aheadWith(" + n + ", 5, 4)", p -> p.aheadWith(n, 5, 4));
            add(tries, "aheadWith(0, 3, " + n + ")", p -> p.aheadWith(0, 3, n));
            add(tries, "meet(" + n + ", 0)", p -> p.meet(n, 0));
            add(tries, "winnerIn(" + n + ", 600)", p -> p.winnerIn(n, 600));
            add(tries, "winnerIn(1, " + n + ")", p -> p.winnerIn(1, n));
            add(tries, "voidWith(" + n + ")", p -> p.voidWith(n));
        }
        return tries;
    }

    private static void add(List<Call> calls, String name, Consumer<Pommel> on) {
        calls.add(new Call(name, on));
    }

    private static Pommel played(List<Call> story, int to) {
        Pommel p = new Pommel();
        for (Call call : story.subList(0, to)) {
            call.on.accept(p);
        }
        return p;
    }

    private static boolean throwsOn(Pommel p, Call call) {
        try {
            call.on.accept(p);
            return false;
        } catch (IllegalArgumentException | IllegalStateException | IndexOutOfBoundsException e) {
            return true;
        }
    }

    /** The checksums from there on, each behind one more call. */
    private static List<Long> rest(Pommel p, List<Call> story, int from) {
        List<Long> sums = new ArrayList<>();
        sums.add(p.digest());
        for (Call call : story.subList(from, story.size())) {
            call.on.accept(p);
            sums.add(p.digest());
        }
        return sums;
    }

    private static void firstNamed() {
        C.says("If several exceptions apply, the one that is named first is thrown.");
        Pommel few = Scene.fencers(2);
        C.illegal("form with too few", few, n -> few.form(n), 0, 5);
        C.illegal("draw, not formed", few, n -> few.draw(n), -1, 51);
        C.noIndex("of(n, 7)", few, n -> few.of(n, 7), -1, 2);
        C.noIndex("order(n, 5)", few, n -> few.order(n, -1), -1, 2);
        C.noIndex("meet(n, n)", few, n -> few.meet(n, n), -1, 2);
        C.noIndex("start without bouts", few, n -> few.start(n, 3), -1, 0);
        C.noIndex("ofBout without bouts", few, n -> few.ofBout(n, 12), -1, 0);
        C.noIndex("aheadWith without bouts", few, n -> few.aheadWith(n, 6, 6), -1, 0);
        C.illegal("hit without bouts", few, n -> few.hit(n, 0), -1, 3);
        C.illegal("winnerIn without bouts", few, n -> few.winnerIn(0, n), 0, 601);
        Pommel full = Scene.fencers(16);
        C.illegal("fencer, full", full, n -> full.fencer(n, 0), -1, 100);
        C.illegal("fencer, full", full, n -> full.fencer(0, n), -1, 6);
        Pommel p = Scene.pool(3);
        C.illegal("fencer, formed", p, n -> p.fencer(n, 0), -1, 100);
        C.illegal("fencer, formed", p, n -> p.fencer(0, n), -1, 6);
        C.illegal("form, formed", p, n -> p.form(n), 0, 5);
        C.illegal("draw, all wait", p, n -> p.draw(n), -1, 51);
        C.illegal("hit, nothing live", p, n -> p.hit(0, n), -1, 3);
        C.illegal("card, nothing live", p, n -> p.card(n, 0, 0), -1, 3);
        C.illegal("card, nothing live", p, n -> p.card(0, n, 0), -1, 2);
        C.illegal("card, nothing live", p, n -> p.card(0, 0, n), -1, 3);
        C.illegal("winnerIn, nothing live", p, n -> p.winnerIn(n, 1), -1, 3);
        p.start(0, 0);
        C.noIndex("start(n, taken)", p, n -> p.start(n, 0), -1, 3);
        C.noIndex("start(n, 3)", p, n -> p.start(n, 3), -1, 3);
        C.illegal("start, live", p, n -> p.start(0, n), -1, 3);
        C.noIndex("aheadWith(n, 6, 6)", p, n -> p.aheadWith(n, 6, 6), -1, 3);
        C.illegal("aheadWith, live", p, n -> p.aheadWith(0, n, n), 0, 6);
        Pommel t = Scene.table(3);
        C.illegal("draw, drawn", t, n -> t.draw(n), -1, 51);
        C.illegal("aheadWith, of the table", t, n -> t.aheadWith(4, n, 3), -1, 3, 6);
        C.illegal("start, not known", t, n -> t.start(5, n), -1, 3);
    }
}
