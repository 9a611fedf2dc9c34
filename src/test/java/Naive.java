import java.util.ArrayList;
import java.util.Comparator;
import java.util.List;
import java.util.NoSuchElementException;

/**
 * The document again, as slowly and plainly as it can be written, to compare the class with:
 * time goes by seconds, and nothing is kept that can be found out anew.
 */
final class Naive {
    private static final class Duel {
        boolean table;
        int round;
        int index;
        int leftOne = -1;
        int rightOne = -1;
        int state;
        int winner = -1;
        int piste = -1;
        int elapsed;
        int[] score = new int[2];
        boolean[][] shown = new boolean[2][3];
    }

    private final List<int[]> people = new ArrayList<>();
    private final List<Boolean> out = new ArrayList<>();
    private final List<Integer> lastEnd = new ArrayList<>();
    private final List<List<Integer>> pools = new ArrayList<>();
    private final List<Duel> duels = new ArrayList<>();
    private List<Integer> seeds = List.of();
    private List<Integer> lines = List.of();
    private int now;

    int fencer(int rank, int club) {
        demand(rank >= 0 && rank <= 99 && club >= 0 && club <= 5);
        possible(people.size() < 16 && pools.isEmpty());
        people.add(new int[] {rank, club});
        out.add(false);
        lastEnd.add(null);
        return people.size() - 1;
    }

    int form(int count) {
        demand(count >= 1 && count <= 4);
        possible(pools.isEmpty() && people.size() >= 3 * count);
        List<Integer> byRank = numbers();
        byRank.sort(Comparator.comparing((Integer f) -> people.get(f)[0]).thenComparing(f -> f));
        for (int i = 0; i < count; i++) {
            pools.add(new ArrayList<>());
        }
        for (int from = 0, row = 0; from < byRank.size(); from += count, row++) {
            List<List<Integer>> free = new ArrayList<>(pools);
            if (row % 2 == 1) {
                java.util.Collections.reverse(free);
            }
            for (int f : byRank.subList(from, Math.min(from + count, byRank.size()))) {
                int choice = 0;
                for (int i = free.size() - 1; i >= 0; i--) {
                    if (free.get(i).stream().noneMatch(g -> people.get(g)[1] == people.get(f)[1])) {
                        choice = i;
                    }
                }
                // By its place in the list, for pools with the same fencers are equal lists.
                free.remove(choice).add(f);
            }
        }
        for (List<Integer> pool : pools) {
            List<int[]> pairs = new ArrayList<>();
            for (int a = 0; a < pool.size(); a++) {
                for (int b = a + 1; b < pool.size(); b++) {
                    pairs.add(new int[] {a, b});
                }
            }
            pairs.sort(Comparator.comparing((int[] p) -> p[0] + p[1]).thenComparing(p -> p[0]));
            for (int[] pair : pairs) {
                Duel duel = new Duel();
                duel.leftOne = pool.get(pair[0]);
                duel.rightOne = pool.get(pair[1]);
                duels.add(duel);
            }
        }
        return duels.size();
    }

    int of(int f, int what) {
        exists(f, people.size());
        demand(what >= 0 && what <= 6);
        int pool = -1;
        for (int i = 0; i < pools.size(); i++) {
            pool = pools.get(i).contains(f) ? i : pool;
        }
        int live = -1;
        for (int i = 0; i < duels.size(); i++) {
            live = duels.get(i).state == 1 && has(i, f) ? i : live;
        }
        int[] all = {people.get(f)[0], people.get(f)[1], pool,
            pool < 0 ? -1 : pools.get(pool).indexOf(f), out.get(f) ? 1 : 0, live,
            lastEnd.get(f) == null ? 0 : lastEnd.get(f) + 120};
        return all[what];
    }

    void start(int bout, int piste) {
        exists(bout, duels.size());
        demand(piste >= 0 && piste <= 2);
        possible(reason(bout) == 0 && on(piste) < 0);
        duels.get(bout).state = 1;
        duels.get(bout).piste = piste;
    }

    int pass(int seconds) {
        demand(seconds >= 1 && seconds <= 600);
        int ended = 0;
        for (int second = 0; second < seconds; second++) {
            now++;
            for (int i = 0; i < duels.size(); i++) {
                Duel duel = duels.get(i);
                if (duel.state == 1) {
                    duel.elapsed++;
                    int winner = byTime(i, duel.elapsed);
                    if (winner >= 0) {
                        end(i, winner);
                        ended++;
                    }
                }
            }
        }
        return ended;
    }

    boolean hit(int piste, int who) {
        demand(piste >= 0 && piste <= 2 && who >= 0 && who <= 2);
        possible(on(piste) >= 0);
        return hits(on(piste), who != 1, who != 0);
    }

    int card(int piste, int who, int kind) {
        demand(piste >= 0 && piste <= 2 && who >= 0 && who <= 1 && kind >= 0 && kind <= 2);
        possible(on(piste) >= 0);
        int bout = on(piste);
        Duel duel = duels.get(bout);
        boolean[] mine = duel.shown[who];
        int truth = kind == 0 && (mine[0] || mine[1] || mine[2]) ? 1 : kind;
        mine[truth] = true;
        if (truth == 1) {
            hits(bout, who == 1, who == 0);
        }
        if (truth == 2) {
            int mineIs = who == 0 ? left(bout) : right(bout);
            int otherIs = who == 0 ? right(bout) : left(bout);
            out.set(mineIs, true);
            if (duel.table) {
                end(bout, otherIs);
            } else {
                end(bout, -1);
                for (int i = 0; i < duels.size(); i++) {
                    if (has(i, mineIs)) {
                        duels.get(i).state = 3;
                    }
                }
            }
        }
        return truth;
    }

    int ofBout(int bout, int what) {
        exists(bout, duels.size());
        demand(what >= 0 && what <= 11);
        Duel duel = duels.get(bout);
        boolean live = duel.state == 1;
        int regular = duel.table ? 540 : 180;
        boolean extra = live && duel.elapsed >= regular;
        int secondsLeft = extra ? regular + 60 - duel.elapsed : 180 - duel.elapsed % 180;
        return switch (what) {
            case 0 -> duel.state;
            case 1 -> left(bout);
            case 2 -> right(bout);
            case 3, 4 -> duel.score[what - 3];
            case 5 -> duel.state == 2 ? duel.winner : -1;
            case 6 -> live ? duel.piste : -1;
            case 7 -> live ? secondsLeft : 0;
            case 8 -> live ? (extra ? regular / 180 + 1 : duel.elapsed / 180 + 1) : 0;
            case 9 -> extra ? priority(bout) : -1;
            default -> highest(duel.shown[what - 10]);
        };
    }

    int reason(int bout) {
        exists(bout, duels.size());
        if (duels.get(bout).state != 0) {
            return 1;
        }
        int[] both = {left(bout), right(bout)};
        if (both[0] < 0 || both[1] < 0) {
            return 2;
        }
        if (of(both[0], 5) >= 0 || of(both[1], 5) >= 0) {
            return 3;
        }
        for (int f : both) {
            if (lastEnd.get(f) != null && now - lastEnd.get(f) < 120) {
                return 4;
            }
        }
        return 0;
    }

    int next() {
        List<Integer> ready = new ArrayList<>();
        for (int i = 0; i < duels.size(); i++) {
            if (reason(i) == 0) {
                ready.add(i);
            }
        }
        ready.sort(Comparator.comparing((Integer i) -> Math.max(of(left(i), 6), of(right(i), 6)))
                .thenComparing(i -> i));
        return ready.isEmpty() ? -1 : ready.get(0);
    }

    int many(int what) {
        demand(what >= 0 && what <= 10);
        return switch (what) {
            case 0 -> people.size();
            case 1 -> pools.size();
            case 2 -> duels.size();
            case 3, 4, 5, 6 -> (int) duels.stream().filter(d -> d.state == what - 3).count();
            case 7 -> now;
            case 8 -> (int) out.stream().filter(o -> o).count();
            case 9 -> lines.size();
            default -> lines.isEmpty() ? -1 : duels.get(duels.size() - 1).winner;
        };
    }

    int order(int f, int what) {
        exists(f, people.size());
        demand(what >= 0 && what <= 4);
        return what == 4 ? ranking(-1, 0, 0).indexOf(f) : sums(f, -1, 0, 0)[what];
    }

    int draw(int cut) {
        demand(cut >= 0 && cut <= 50);
        possible(!pools.isEmpty() && lines.isEmpty()
                && duels.stream().noneMatch(d -> d.state == 0 || d.state == 1));
        List<Integer> able = ranking(-1, 0, 0);
        able.removeIf(f -> out.get(f));
        int left = able.size() - able.size() * cut / 100;
        possible(left >= 2);
        seeds = new ArrayList<>(able.subList(0, left));
        int size = left <= 2 ? 2 : left <= 4 ? 4 : left <= 8 ? 8 : 16;
        lines = linesOf(size);
        int round = 0;
        for (int inRound = size / 2; inRound >= 1; inRound /= 2) {
            for (int i = 0; i < inRound; i++) {
                Duel duel = new Duel();
                duel.table = true;
                duel.round = round;
                duel.index = i;
                duels.add(duel);
            }
            round++;
        }
        for (int i = 0; i < duels.size(); i++) {
            Duel duel = duels.get(i);
            if (duel.table && duel.round == 0 && (left(i) < 0 || right(i) < 0)) {
                duel.state = 2;
                duel.winner = Math.max(left(i), right(i));
            }
        }
        return left;
    }

    int line(int line) {
        exists(line, lines.size());
        return lines.get(line) < seeds.size() ? seeds.get(lines.get(line)) : -1;
    }

    int place(int f) {
        exists(f, people.size());
        List<Integer> order = ranking(-1, 0, 0);
        List<Integer> all = numbers();
        all.sort(Comparator.comparing((Integer g) -> out.get(g))
                .thenComparing(g -> out.get(g) ? 0 : -lostIn(g))
                .thenComparing(g -> order.indexOf(g)));
        return all.indexOf(f);
    }

    double meanScore() {
        double sum = 0;
        int count = 0;
        for (int i = 0; i < duels.size(); i++) {
            if (duels.get(i).state == 2 && left(i) >= 0 && right(i) >= 0) {
                sum += duels.get(i).score[0] + duels.get(i).score[1];
                count++;
            }
        }
        return count == 0 ? 0 : sum / (2 * count);
    }

    int aheadWith(int bout, int left, int right) {
        exists(bout, duels.size());
        demand(left >= 0 && left <= 5 && right >= 0 && right <= 5 && left != right);
        possible(duels.get(bout).state == 0 && !duels.get(bout).table);
        return ranking(bout, left, right).indexOf(left(bout));
    }

    int meet(int one, int other) {
        exists(one, people.size());
        exists(other, people.size());
        demand(one != other);
        if (!seeds.contains(one) || !seeds.contains(other)) {
            return -1;
        }
        int a = lines.indexOf(seeds.indexOf(one));
        int b = lines.indexOf(seeds.indexOf(other));
        int round = 0;
        for (int width = 2; a / width != b / width; width *= 2) {
            round++;
        }
        return round;
    }

    int winnerIn(int piste, int seconds) {
        demand(piste >= 0 && piste <= 2 && seconds >= 1 && seconds <= 600);
        possible(on(piste) >= 0);
        int bout = on(piste);
        for (int i = 1; i <= seconds; i++) {
            int winner = byTime(bout, duels.get(bout).elapsed + i);
            if (winner >= 0) {
                return winner;
            }
        }
        return -1;
    }

    int voidWith(int f) {
        return order(f, 0);
    }

    long digest() {
        long d = 58101;
        for (int what = 0; what <= 10; what++) {
            d = d * 31 + many(what);
        }
        for (int f = 0; f < people.size(); f++) {
            for (int what = 0; what <= 6; what++) {
                d = d * 31 + of(f, what);
            }
            for (int what = 0; what <= 4; what++) {
                d = d * 31 + order(f, what);
            }
            d = (d * 31 + place(f)) * 31 + voidWith(f);
        }
        for (int bout = 0; bout < duels.size(); bout++) {
            for (int what = 0; what <= 11; what++) {
                d = d * 31 + ofBout(bout, what);
            }
            d = d * 31 + reason(bout);
        }
        d = d * 31 + next();
        for (int i = 0; i < lines.size(); i++) {
            d = d * 31 + line(i);
        }
        return d;
    }

    private List<Integer> numbers() {
        List<Integer> all = new ArrayList<>();
        for (int i = 0; i < people.size(); i++) {
            all.add(i);
        }
        return all;
    }

    /** Who fences there: in the table by the lines, or by who won the two bouts before. */
    private int left(int bout) {
        return side(bout, 0);
    }

    private int right(int bout) {
        return side(bout, 1);
    }

    private int side(int bout, int who) {
        Duel duel = duels.get(bout);
        if (!duel.table) {
            return who == 0 ? duel.leftOne : duel.rightOne;
        }
        if (duel.round == 0) {
            return line(2 * duel.index + who);
        }
        for (Duel before : duels) {
            if (before.table && before.round == duel.round - 1
                    && before.index == 2 * duel.index + who) {
                return before.winner;
            }
        }
        throw new NoSuchElementException();
    }

    private boolean has(int bout, int f) {
        return left(bout) == f || right(bout) == f;
    }

    private int on(int piste) {
        for (int i = 0; i < duels.size(); i++) {
            if (duels.get(i).state == 1 && duels.get(i).piste == piste) {
                return i;
            }
        }
        return -1;
    }

    private int priority(int bout) {
        return (bout + duels.get(bout).score[0]) % 2 == 0 ? left(bout) : right(bout);
    }

    /** Who wins just when it has gone on for so many seconds; -1 if it does not end then. */
    private int byTime(int bout, int elapsed) {
        Duel duel = duels.get(bout);
        int regular = duel.table ? 540 : 180;
        if (elapsed == regular && duel.score[0] != duel.score[1]) {
            return duel.score[0] > duel.score[1] ? left(bout) : right(bout);
        }
        return elapsed == regular + 60 ? priority(bout) : -1;
    }

    private boolean hits(int bout, boolean ofLeft, boolean ofRight) {
        Duel duel = duels.get(bout);
        int goal = duel.table ? 15 : 5;
        boolean extra = duel.elapsed >= (duel.table ? 540 : 180);
        int newLeft = duel.score[0] + (ofLeft ? 1 : 0);
        int newRight = duel.score[1] + (ofRight ? 1 : 0);
        if (ofLeft && ofRight && (extra || newLeft == goal && newRight == goal)) {
            return false;
        }
        duel.score = new int[] {newLeft, newRight};
        if (extra || newLeft == goal || newRight == goal) {
            end(bout, newLeft > newRight ? left(bout) : right(bout));
            return true;
        }
        return false;
    }

    private void end(int bout, int winner) {
        lastEnd.set(left(bout), now);
        lastEnd.set(right(bout), now);
        duels.get(bout).state = 2;
        duels.get(bout).winner = winner;
    }

    private static int highest(boolean[] shown) {
        return shown[2] ? 3 : shown[1] ? 2 : shown[0] ? 1 : 0;
    }

    /** MET, WON, GIVEN, TAKEN, as if that bout was over with these scores. */
    private int[] sums(int f, int also, int alsoLeft, int alsoRight) {
        int[] sums = new int[4];
        for (int i = 0; i < duels.size(); i++) {
            Duel duel = duels.get(i);
            if (duel.table || !has(i, f) || duel.state != 2 && i != also) {
                continue;
            }
            int ofLeft = i == also ? alsoLeft : duel.score[0];
            int ofRight = i == also ? alsoRight : duel.score[1];
            int winner = i != also ? duel.winner : ofLeft > ofRight ? left(i) : right(i);
            sums[0]++;
            sums[1] += winner == f ? 1 : 0;
            sums[2] += left(i) == f ? ofLeft : ofRight;
            sums[3] += left(i) == f ? ofRight : ofLeft;
        }
        return sums;
    }

    private List<Integer> ranking(int also, int alsoLeft, int alsoRight) {
        List<int[]> rows = new ArrayList<>();
        for (int f = 0; f < people.size(); f++) {
            int[] s = sums(f, also, alsoLeft, alsoRight);
            // 360360 is a multiple of 1 to 15: the share of what was won is whole.
            int share = s[0] == 0 ? 0 : s[1] * (360360 / s[0]);
            rows.add(new int[] {out.get(f) ? 1 : 0, -share, s[3] - s[2], -s[2],
                people.get(f)[0], f});
        }
        rows.sort(java.util.Arrays::compare);
        List<Integer> order = new ArrayList<>();
        for (int[] row : rows) {
            order.add(row[5]);
        }
        return order;
    }

    private static List<Integer> linesOf(int size) {
        if (size == 1) {
            return List.of(0);
        }
        List<Integer> all = new ArrayList<>();
        for (int x : linesOf(size / 2)) {
            all.add(x);
            all.add(size - 1 - x);
        }
        return all;
    }

    /** -1 outside the table, the round of it that was lost, or 9. */
    private int lostIn(int f) {
        if (!seeds.contains(f)) {
            return -1;
        }
        for (int i = 0; i < duels.size(); i++) {
            Duel duel = duels.get(i);
            if (duel.table && duel.state == 2 && has(i, f) && duel.winner != f) {
                return duel.round;
            }
        }
        return 9;
    }

    private static void exists(int index, int size) {
        if (index < 0 || index >= size) {
            throw new IndexOutOfBoundsException();
        }
    }

    private static void demand(boolean holds) {
        if (!holds) {
            throw new IllegalArgumentException();
        }
    }

    private static void possible(boolean holds) {
        if (!holds) {
            throw new IllegalStateException();
        }
    }
}
