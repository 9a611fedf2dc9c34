import java.util.Random;
import java.util.function.Supplier;

/** Long runs of calls, each answer compared with that of the naive one; the same runs each time. */
final class RandomRunsTest {
    private static final int RUNS = 600;
    private static final int CALLS = 512;
    private static final int[] ODD = {-1, Integer.MIN_VALUE, Integer.MAX_VALUE, 17, 601};

    private final Random random;
    private final Pommel pommel = new Pommel();
    private final Naive naive = new Naive();
    private final StringBuilder told = new StringBuilder();
    private final int blackPart;
    private int calls;
    private boolean wrong;

    private RandomRunsTest(int seed) {
        random = new Random(seed);
        // In most runs black cards are rare, so that the table is reached.
        blackPart = seed % 3 == 0 ? 3 : 40;
    }

    public static void main(String[] args) {
        int drawn = 0;
        int decided = 0;
        int out = 0;
        for (int seed = 0; seed < RUNS; seed++) {
            RandomRunsTest run = new RandomRunsTest(seed);
            run.all();
            if (run.wrong) {
                System.out.println("random run " + seed + ":\n" + run.told);
                System.exit(1);
            }
            // The naive one is asked, for what the other one answers behind its 512th call is free.
            drawn += run.naive.many(9) > 0 ? 1 : 0;
            decided += run.naive.many(10) >= 0 ? 1 : 0;
            out += run.naive.many(8) > 0 ? 1 : 0;
        }
        System.out.println("random runs: " + RUNS + ", with a table " + drawn + ", decided "
                + decided + ", with a black card " + out);
        if (drawn < RUNS / 4 || decided < RUNS / 8 || out < RUNS / 8) {
            System.out.println("the runs do not reach what they should");
            System.exit(1);
        }
    }

    private void all() {
        int fencers = 3 + random.nextInt(14);
        int ranks = random.nextBoolean() ? 100 : 3;
        int clubs = 1 + random.nextInt(6);
        for (int i = 0; i < fencers; i++) {
            int rank = random.nextInt(ranks);
            int club = random.nextInt(clubs);
            same("fencer " + rank + " " + club, () -> (long) pommel.fencer(rank, club),
                    () -> (long) naive.fencer(rank, club));
        }
        while (calls < CALLS && !wrong) {
            if (calls % 7 == 0 || calls == CALLS - 1) {
                same("digest", pommel::digest, naive::digest);
            } else if (naive.many(1) == 0 && random.nextInt(3) == 0) {
                // Mostly as many pools as there can be, so that the calls of a run are enough.
                int most = Math.min(4, fencers / 3);
                one(1, random.nextInt(3) > 0 ? most : 1 + random.nextInt(most), 0, 0);
            } else if (random.nextInt(4) > 0) {
                goOn();
            } else {
                one(random.nextInt(20), number(), number(), number());
            }
        }
    }

    private void goOn() {
        int piste = random.nextInt(3);
        switch (random.nextInt(6)) {
            case 0, 1 -> one(2, naive.next(), piste, 0);
            case 2 -> one(3, 1 + random.nextInt(random.nextBoolean() ? 600 : 130), 0, 0);
            case 3 -> one(4, piste, random.nextInt(3), 0);
            case 4 -> {
                if (random.nextInt(3) == 0) {
                    int kind = random.nextInt(blackPart) == 0 ? 2 : random.nextInt(2);
                    one(5, piste, random.nextInt(2), kind);
                } else {
                    one(4, piste, random.nextInt(2), 0);
                }
            }
            default -> {
                if (random.nextInt(4) == 0) {
                    one(12, random.nextInt(51), 0, 0);
                } else {
                    one(3, 120 + random.nextInt(300), 0, 0);
                }
            }
        }
    }

    private int number() {
        int kind = random.nextInt(12);
        if (kind == 0) {
            return ODD[random.nextInt(ODD.length)];
        }
        return random.nextInt(kind < 8 ? 6 : kind < 11 ? 16 : 130);
    }

    private void one(int which, int a, int b, int c) {
        String call = which + " of " + a + " " + b + " " + c;
        switch (which) {
            case 0 -> same(call, () -> (long) pommel.fencer(a, b), () -> (long) naive.fencer(a, b));
            case 1 -> same(call, () -> (long) pommel.form(a), () -> (long) naive.form(a));
            case 2 -> same(call, () -> {
                pommel.start(a, b);
                return 0L;
            }, () -> {
                naive.start(a, b);
                return 0L;
            });
            case 3 -> same(call, () -> (long) pommel.pass(a), () -> (long) naive.pass(a));
            case 4 -> same(call, () -> pommel.hit(a, b) ? 1L : 0L, () -> naive.hit(a, b) ? 1L : 0L);
            case 5 -> same(call, () -> (long) pommel.card(a, b, c),
                    () -> (long) naive.card(a, b, c));
            case 6 -> same(call, () -> (long) pommel.ofBout(a, b),
                    () -> (long) naive.ofBout(a, b));
            case 7 -> same(call, () -> (long) pommel.reason(a), () -> (long) naive.reason(a));
            case 8 -> same(call, () -> (long) pommel.next(), () -> (long) naive.next());
            case 9 -> same(call, () -> (long) pommel.many(a), () -> (long) naive.many(a));
            case 10 -> same(call, () -> (long) pommel.order(a, b), () -> (long) naive.order(a, b));
            case 11 -> same(call, () -> (long) pommel.of(a, b), () -> (long) naive.of(a, b));
            case 12 -> same(call, () -> (long) pommel.draw(a), () -> (long) naive.draw(a));
            case 13 -> same(call, () -> (long) pommel.line(a), () -> (long) naive.line(a));
            case 14 -> same(call, () -> (long) pommel.place(a), () -> (long) naive.place(a));
            case 15 -> same(call, () -> Double.doubleToLongBits(pommel.meanScore()),
                    () -> Double.doubleToLongBits(naive.meanScore()));
            case 16 -> same(call, () -> (long) pommel.aheadWith(a, b, c),
                    () -> (long) naive.aheadWith(a, b, c));
            case 17 -> same(call, () -> (long) pommel.meet(a, b), () -> (long) naive.meet(a, b));
            case 18 -> same(call, () -> (long) pommel.winnerIn(a % 4, b * 40),
                    () -> (long) naive.winnerIn(a % 4, b * 40));
            default -> same(call, () -> (long) pommel.voidWith(a), () -> (long) naive.voidWith(a));
        }
    }

    private void same(String call, Supplier<Long> ofPommel, Supplier<Long> ofNaive) {
        calls++;
        String got = answer(ofPommel);
        String due = answer(ofNaive);
        told.append(call).append(" -> ").append(got).append(", due is ").append(due).append('\n');
        wrong |= !got.equals(due);
    }

    private static String answer(Supplier<Long> call) {
        try {
            return String.valueOf(call.get());
        } catch (RuntimeException e) {
            return e.getClass().getSimpleName();
        }
    }
}
