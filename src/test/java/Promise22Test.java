import java.math.BigInteger;
import java.util.ArrayList;
import java.util.List;
import java.util.function.Supplier;

/** Promise 22: digest. */
final class Promise22Test {
    private static final Check C = Check.ofPromise(22);
    /** So many bouts are asked of one object, whose calls stay under 512 by that. */
    private static final int AT_ONCE = 8;

    public static void main(String[] args) {
        starts();
        numbers();
        wraps();
        returns();
        C.end();
    }

    private static void starts() {
        C.says("Computes a checksum. A number d starts with 58101; for each of the following numbers v,"
                + " d becomes d * 31 + v,");
        C.same("of a new one", new Pommel().digest(), -2376645974867895467L);
        Pommel one = new Pommel();
        one.fencer(99, 5);
        C.same("of one fencer", one.digest(), -1061155079641904589L);
    }

    private static void numbers() {
        C.says("many() of 0 to 10; FENCER by FENCER of() of 0 to 6, order() of 0 to 4, place(),"
                + " voidWith(); BOUT by BOUT ofBout() of 0 to 11, reason(); next(); each line(), if the"
                + " TABLE is drawn.");
        asks("new", Pommel::new);
        asks("one fencer", () -> Scene.fencers(1));
        asks("sixteen fencers", () -> Scene.fencers(16));
        asks("formed", () -> Scene.pool(3));
        asks("the most bouts of pools", () -> Scene.pool(16));
        asks("live", Promise22Test::live);
        asks("void", Promise22Test::voided);
        asks("at the end of the pools", () -> Scene.fenced(5));
        asks("a table of two", Promise22Test::tableOfTwo);
        asks("a table of five", () -> Scene.table(5));
        asks("a won table", Promise22Test::won);
        asks("a table of sixteen", Scene::fullTable);
    }

    private static void wraps() {
        C.says("which wraps around as a 64-bit integer:");
        BigInteger most = BigInteger.valueOf(Long.MAX_VALUE);
        C.yes("it does, with any numbers", exact(numbersOf(Pommel::new)).compareTo(most) > 0);
        C.same("below 0", Long.signum(new Pommel().digest()), -1);
        C.same("the most numbers", Scene.pool(16).digest(),
                exact(numbersOf(() -> Scene.pool(16))).longValue());
    }

    private static void returns() {
        C.says("Returns d.");
        Pommel p = live();
        long d = p.digest();
        C.same("again", p.digest(), d);
        C.same("of another one with the same calls", live().digest(), d);
        p.pass(1);
        C.yes("another one behind a second more", p.digest() != d);
    }

    private static void asks(String name, Supplier<Pommel> made) {
        C.same("digest(), " + name, made.get().digest(), exact(numbersOf(made)).longValue());
    }

    private static BigInteger exact(List<Integer> numbers) {
        BigInteger d = BigInteger.valueOf(58101);
        for (int v : numbers) {
            d = d.multiply(BigInteger.valueOf(31)).add(BigInteger.valueOf(v));
        }
        return d;
    }

    private static List<Integer> numbersOf(Supplier<Pommel> made) {
        List<Integer> numbers = new ArrayList<>();
        Pommel p = made.get();
        for (int what = 0; what <= 10; what++) {
            numbers.add(p.many(what));
        }
        p = made.get();
        int fencers = p.many(0);
        for (int fencer = 0; fencer < fencers; fencer++) {
            if (fencer % AT_ONCE == 0) {
                p = made.get();
            }
            addFencer(numbers, p, fencer);
        }
        int bouts = made.get().many(2);
        for (int bout = 0; bout < bouts; bout++) {
            if (bout % AT_ONCE == 0) {
                p = made.get();
            }
            addBout(numbers, p, bout);
        }
        p = made.get();
        numbers.add(p.next());
        int lines = p.many(9);
        for (int line = 0; line < lines; line++) {
            numbers.add(p.line(line));
        }
        return numbers;
    }

    private static void addFencer(List<Integer> numbers, Pommel p, int fencer) {
        for (int what = 0; what <= 6; what++) {
            numbers.add(p.of(fencer, what));
        }
        for (int what = 0; what <= 4; what++) {
            numbers.add(p.order(fencer, what));
        }
        numbers.add(p.place(fencer));
        numbers.add(p.voidWith(fencer));
    }

    private static void addBout(List<Integer> numbers, Pommel p, int bout) {
        for (int what = 0; what <= 11; what++) {
            numbers.add(p.ofBout(bout, what));
        }
        numbers.add(p.reason(bout));
    }

    private static Pommel live() {
        Pommel p = Scene.pool(4);
        p.start(0, 0);
        p.card(0, 0, 0);
        p.start(5, 2);
        p.hit(2, 1);
        p.pass(179);
        return p;
    }

    private static Pommel voided() {
        Pommel p = live();
        p.card(0, 1, 2);
        return p;
    }

    private static Pommel tableOfTwo() {
        Pommel p = Scene.fenced(3);
        p.draw(50);
        return p;
    }

    private static Pommel won() {
        Pommel p = Scene.table(3);
        Scene.winInTable(p, 4, 1);
        Scene.winInTable(p, 5, 1);
        return p;
    }
}
