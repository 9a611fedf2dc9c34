import java.util.ArrayList;

/** A fencing tournament: pools, bouts on pistes, the order, the table and the places. */
public final class Pommel {
    private static final int NONE = -1;

    private static final int MOST_FENCERS = 16;
    private static final int GREATEST_RANK = 99;
    private static final int GREATEST_CLUB = 5;
    private static final int MOST_POOLS = 4;
    private static final int LEAST_IN_POOL = 3;
    private static final int PISTES = 3;
    private static final int MOST_SECONDS = 600;
    private static final int GREATEST_CUT = 50;
    private static final int MOST_ROUNDS = 4;

    private static final int PERIOD_SECONDS = 180;
    private static final int EXTRA_SECONDS = 60;
    private static final int REST_SECONDS = 120;
    private static final int POOL_GOAL = 5;
    private static final int TABLE_GOAL = 15;
    private static final int POOL_PERIODS = 1;
    private static final int TABLE_PERIODS = 3;

    private static final int WAITS = 0;
    private static final int LIVE = 1;
    private static final int OVER = 2;
    private static final int VOID = 3;

    private static final int LEFT = 0;
    private static final int RIGHT = 1;
    private static final int BOTH = 2;

    private static final int YELLOW = 0;
    private static final int RED = 1;
    private static final int BLACK = 2;

    private static final int READY = 0;
    private static final int DOES_NOT_WAIT = 1;
    private static final int NOT_KNOWN = 2;
    private static final int IN_LIVE_BOUT = 3;
    private static final int NOT_RESTED = 4;

    /** The standing of a fencer of the table that has not lost: above that of every round. */
    private static final int UNBEATEN = MOST_ROUNDS;

    private static final int DIGEST_START = 58101;
    private static final int DIGEST_FACTOR = 31;

    private final ArrayList<Fencer> fencers = new ArrayList<Fencer>();
    private final ArrayList<Bout> bouts = new ArrayList<Bout>();
    /** The live bout of each piste, null on a free one. */
    private final Bout[] pistes = new Bout[PISTES];
    private final int[] poolSizes = new int[MOST_POOLS];
    /** The fencers of the table, by seeds; null behind the last one. */
    private final Fencer[] seeded = new Fencer[MOST_FENCERS];
    /** The seed of each line of the table. */
    private final int[] seedsOfLines = new int[MOST_FENCERS];
    private int pools;
    private int now;
    private int tableSize;
    private int firstOfTable;

    /** One who fences, with what the bouts of its pool came to. */
    private static final class Fencer {
        final int number;
        final int rank;
        final int club;
        int pool = NONE;
        int spot = NONE;
        boolean out;
        Bout liveBout;
        int restedAt;
        int met;
        int won;
        int given;
        int taken;
        int tableLine = NONE;
        /** NONE outside the table, the round of it that was lost, or UNBEATEN. */
        int standing = NONE;

        Fencer(int number, int rank, int club) {
            this.number = number;
            this.rank = rank;
            this.club = club;
        }

        /** Counts a bout of the pool: times is 1, or -1 to take it back. */
        void count(boolean wins, int own, int others, int times) {
            met += times;
            won += wins ? times : 0;
            given += own * times;
            taken += others * times;
        }

        boolean isAheadOf(Fencer other) {
            if (out != other.out) {
                return other.out;
            }
            // The quotients WON / MET are compared crosswise, so that nothing is cut or divided by 0.
            int share = won * Math.max(other.met, 1);
            int othersShare = other.won * Math.max(met, 1);
            if (share != othersShare) {
                return share > othersShare;
            }
            if (given - taken != other.given - other.taken) {
                return given - taken > other.given - other.taken;
            }
            if (given != other.given) {
                return given > other.given;
            }
            if (rank != other.rank) {
                return rank < other.rank;
            }
            return number < other.number;
        }

        boolean isPlacedAheadOf(Fencer other) {
            if (!out && !other.out && standing != other.standing) {
                return standing > other.standing;
            }
            return isAheadOf(other);
        }
    }

    /** The left or the right side of a bout; its fencer is null as long as nobody is known. */
    private static final class Side {
        Fencer fencer;
        int score;
        /** The highest card, 1 more than its kind; 0 without any. */
        int shown;

        boolean isInLiveBout() {
            return fencer != null && fencer.liveBout != null;
        }

        int restedAt() {
            return fencer == null ? 0 : fencer.restedAt;
        }

        void begin(Bout bout) {
            if (fencer != null) {
                fencer.liveBout = bout;
            }
        }

        void end(int time) {
            if (fencer != null) {
                fencer.liveBout = null;
                fencer.restedAt = time + REST_SECONDS;
            }
        }

        void count(Fencer winner, int own, int others, int times) {
            if (fencer != null) {
                fencer.count(winner == fencer, own, others, times);
            }
        }
    }

    /** A bout of a pool, whose round is NONE, or of a round of the table. */
    private static final class Bout {
        final int number;
        final int round;
        final Side left = new Side();
        final Side right = new Side();
        int state = WAITS;
        Fencer winner;
        int piste = NONE;
        /** From 1 while it is live, one behind the last one in the extra minute; otherwise 0. */
        int period;
        int secondsLeft;

        Bout(int number, int round, Fencer left, Fencer right) {
            this.number = number;
            this.round = round;
            this.left.fencer = left;
            this.right.fencer = right;
        }

        boolean isOfTable() {
            return round != NONE;
        }

        int goal() {
            return isOfTable() ? TABLE_GOAL : POOL_GOAL;
        }

        int periods() {
            return isOfTable() ? TABLE_PERIODS : POOL_PERIODS;
        }

        Side sideOf(int who) {
            return who == LEFT ? left : right;
        }

        boolean isKnown() {
            return left.fencer != null && right.fencer != null;
        }

        boolean isInExtra() {
            return period > periods();
        }

        int restedAt() {
            return Math.max(left.restedAt(), right.restedAt());
        }

        Side withPriority() {
            return (number + left.score) % 2 == 0 ? left : right;
        }

        /** Who wins as the scores are; with the same scores, who has priority. */
        Fencer winnerAsItStands() {
            if (left.score == right.score) {
                return withPriority().fencer;
            }
            return left.score > right.score ? left.fencer : right.fencer;
        }

        boolean countsForBoth() {
            return !isInExtra() && (left.score + 1 < goal() || right.score + 1 < goal());
        }

        boolean isDecidedByHit() {
            return isInExtra() || left.score >= goal() || right.score >= goal();
        }

        /** In how many seconds it is over, if there is no hit until then. */
        int secondsUntilOver() {
            if (isInExtra()) {
                return secondsLeft;
            }
            int untilLastEnds = secondsLeft + (periods() - period) * PERIOD_SECONDS;
            return left.score == right.score ? untilLastEnds + EXTRA_SECONDS : untilLastEnds;
        }

        void begin(int onPiste) {
            state = LIVE;
            piste = onPiste;
            period = 1;
            secondsLeft = PERIOD_SECONDS;
            left.begin(this);
            right.begin(this);
        }

        /** Goes on for fewer seconds than those until it is over. */
        void goOn(int seconds) {
            int more = seconds;
            while (more >= secondsLeft && period <= periods()) {
                more -= secondsLeft;
                period++;
                secondsLeft = isInExtra() ? EXTRA_SECONDS : PERIOD_SECONDS;
            }
            secondsLeft -= more;
        }

        void end(int time) {
            piste = NONE;
            period = 0;
            secondsLeft = 0;
            left.end(time);
            right.end(time);
        }

        /** Counts it for both fencers with these scores: times is 1, or -1 to take it back. */
        void count(Fencer whoWins, int leftScore, int rightScore, int times) {
            left.count(whoWins, leftScore, rightScore, times);
            right.count(whoWins, rightScore, leftScore, times);
        }
    }

    /** Creates a tournament without fencers. */
    public Pommel() {
    }

    // ---- fencers and pools

    /** A fencer comes; returns its number. */
    public int fencer(int rank, int club) throws IllegalArgumentException, IllegalStateException {
        if (!isIn(rank, 0, GREATEST_RANK) || !isIn(club, 0, GREATEST_CLUB)) {
            throw new IllegalArgumentException("rank is not 0 to 99, or club is not 0 to 5");
        }
        if (fencers.size() >= MOST_FENCERS || pools > 0) {
            throw new IllegalStateException("there are 16 fencers, or pools are formed");
        }
        fencers.add(new Fencer(fencers.size(), rank, club));
        return fencers.size() - 1;
    }

    /** Forms pools; returns how many bouts there are. */
    public int form(int pools) throws IllegalArgumentException, IllegalStateException {
        if (!isIn(pools, 1, MOST_POOLS)) {
            throw new IllegalArgumentException("pools is not 1 to 4");
        }
        if (this.pools > 0 || fencers.size() < LEAST_IN_POOL * pools) {
            throw new IllegalStateException("pools are formed, or there are too few fencers");
        }
        this.pools = pools;
        for (int i = 0; i < fencers.size(); i++) {
            // Before the first bout the ORDER is by ranks and numbers alone.
            putIntoPool(fencerInOrder(i), i / pools);
        }
        for (int pool = 0; pool < pools; pool++) {
            addPoolBouts(pool);
        }
        return bouts.size();
    }

    /** Tells of a fencer: rank, club, pool, spot, whether it is out, its live bout, its rest. */
    public int of(int fencer, int what) throws IndexOutOfBoundsException, IllegalArgumentException {
        Fencer asked = fencerAt(fencer);
        switch (what) {
            case 0:
                return asked.rank;
            case 1:
                return asked.club;
            case 2:
                return asked.pool;
            case 3:
                return asked.spot;
            case 4:
                return asked.out ? 1 : 0;
            case 5:
                return asked.liveBout == null ? NONE : asked.liveBout.number;
            case 6:
                return asked.restedAt;
            default:
                throw new IllegalArgumentException("what is not 0 to 6");
        }
    }

    private void putIntoPool(Fencer fencer, int row) {
        int pool = fencer == null ? NONE : poolInRow(row, fencer.club);
        if (isIn(pool, 0, pools - 1)) {
            fencer.pool = pool;
            fencer.spot = poolSizes[pool];
            poolSizes[pool]++;
        }
    }

    private int poolInRow(int row, int club) {
        int firstFree = NONE;
        for (int i = 0; i < pools; i++) {
            int pool = row % 2 == 0 ? i : pools - 1 - i;
            // Each row behind filled every pool by one: a larger pool is taken in this one.
            if (poolSizes[pool] > row) {
                continue;
            }
            if (!hasClub(pool, club)) {
                return pool;
            }
            if (firstFree == NONE) {
                firstFree = pool;
            }
        }
        return firstFree;
    }

    private boolean hasClub(int pool, int club) {
        for (int i = 0; i < fencers.size(); i++) {
            Fencer fencer = fencers.get(i);
            if (fencer.pool == pool && fencer.club == club) {
                return true;
            }
        }
        return false;
    }

    private void addPoolBouts(int pool) {
        int size = poolSizes[pool];
        for (int sum = 1; sum <= 2 * size - 3; sum++) {
            for (int smaller = 0; smaller < sum - smaller; smaller++) {
                Fencer left = fencerOnSpot(pool, smaller);
                Fencer right = fencerOnSpot(pool, sum - smaller);
                if (left != null && right != null) {
                    bouts.add(new Bout(bouts.size(), NONE, left, right));
                }
            }
        }
    }

    /** The fencer on that spot of the pool, null if there is none. */
    private Fencer fencerOnSpot(int pool, int spot) {
        for (int i = 0; i < fencers.size(); i++) {
            Fencer fencer = fencers.get(i);
            if (fencer.pool == pool && fencer.spot == spot) {
                return fencer;
            }
        }
        return null;
    }

    // ---- bouts

    /** Starts a bout on a piste. */
    public void start(int bout, int piste)
            throws IndexOutOfBoundsException, IllegalArgumentException, IllegalStateException {
        Bout starting = boutAt(bout);
        if (!isPiste(piste)) {
            throw new IllegalArgumentException("piste is not 0 to 2");
        }
        if (whyNotReady(starting) != READY || pistes[piste] != null) {
            throw new IllegalStateException("the bout is not ready, or the piste is not free");
        }
        starting.begin(piste);
        pistes[piste] = starting;
    }

    /** Time passes; returns how many bouts are over by that. */
    public int pass(int seconds) throws IllegalArgumentException {
        if (!isIn(seconds, 1, MOST_SECONDS)) {
            throw new IllegalArgumentException("seconds is not 1 to 600");
        }
        int over = 0;
        for (int piste = 0; piste < PISTES; piste++) {
            Bout live = pistes[piste];
            if (live != null && isOverAfter(live, seconds)) {
                over++;
            }
        }
        now += seconds;
        return over;
    }

    /** Tells a hit of the left one, the right one, or both; returns whether the bout is over by it. */
    public boolean hit(int piste, int who) throws IllegalArgumentException, IllegalStateException {
        if (!isPiste(piste) || !isIn(who, LEFT, BOTH)) {
            throw new IllegalArgumentException("piste is not 0 to 2, or who is not 0 to 2");
        }
        Bout live = liveBoutOn(piste);
        if (who == BOTH && !live.countsForBoth()) {
            return false;
        }
        if (who != RIGHT) {
            live.left.score++;
        }
        if (who != LEFT) {
            live.right.score++;
        }
        return isOverByHit(live);
    }

    /** Shows a card to the left or the right one; returns the kind that it is in truth. */
    public int card(int piste, int who, int kind)
            throws IllegalArgumentException, IllegalStateException {
        if (!isPiste(piste) || !isIn(who, LEFT, RIGHT) || !isIn(kind, YELLOW, BLACK)) {
            throw new IllegalArgumentException("piste, who or kind is not one that there is");
        }
        Bout live = liveBoutOn(piste);
        Side own = live.sideOf(who);
        Side other = live.sideOf(LEFT + RIGHT - who);
        int trueKind = kind == YELLOW && own.shown > 0 ? RED : kind;
        own.shown = Math.max(own.shown, trueKind + 1);
        if (trueKind == RED) {
            other.score++;
            isOverByHit(live);
        } else if (trueKind == BLACK) {
            putOut(live, own.fencer, other.fencer);
        }
        return trueKind;
    }

    /** Tells of a bout: state, fencers, scores, winner, piste, time, priority, cards. */
    public int ofBout(int bout, int what)
            throws IndexOutOfBoundsException, IllegalArgumentException {
        Bout asked = boutAt(bout);
        switch (what) {
            case 0:
                return asked.state;
            case 1:
                return numberOf(asked.left.fencer);
            case 2:
                return numberOf(asked.right.fencer);
            case 3:
                return asked.left.score;
            case 4:
                return asked.right.score;
            case 5:
                return numberOf(asked.winner);
            case 6:
                return asked.piste;
            case 7:
                return asked.secondsLeft;
            case 8:
                return asked.period;
            case 9:
                return asked.isInExtra() ? numberOf(asked.withPriority().fencer) : NONE;
            case 10:
                return asked.left.shown;
            case 11:
                return asked.right.shown;
            default:
                throw new IllegalArgumentException("what is not 0 to 11");
        }
    }

    /** Returns 0 if the bout is ready, otherwise the first reason why it is not. */
    public int reason(int bout) throws IndexOutOfBoundsException {
        return whyNotReady(boutAt(bout));
    }

    /** Returns the ready bout whose fencers have both rested the longest, or -1. */
    public int next() {
        int best = NONE;
        int bestRestedAt = 0;
        for (int i = 0; i < bouts.size(); i++) {
            Bout bout = bouts.get(i);
            boolean better = best == NONE || bout.restedAt() < bestRestedAt;
            if (better && whyNotReady(bout) == READY) {
                best = i;
                bestRestedAt = bout.restedAt();
            }
        }
        return best;
    }

    /** Tells how many there are of what is asked, the time, or the winner of the table. */
    public int many(int what) throws IllegalArgumentException {
        switch (what) {
            case 0:
                return fencers.size();
            case 1:
                return pools;
            case 2:
                return bouts.size();
            case 3:
                return boutsIn(WAITS);
            case 4:
                return boutsIn(LIVE);
            case 5:
                return boutsIn(OVER);
            case 6:
                return boutsIn(VOID);
            case 7:
                return now;
            case 8:
                return fencersOut();
            case 9:
                return tableSize;
            case 10:
                return numberOf(winnerOfTable());
            default:
                throw new IllegalArgumentException("what is not 0 to 10");
        }
    }

    private int whyNotReady(Bout bout) {
        if (bout.state != WAITS) {
            return DOES_NOT_WAIT;
        }
        if (!bout.isKnown()) {
            return NOT_KNOWN;
        }
        if (bout.left.isInLiveBout() || bout.right.isInLiveBout()) {
            return IN_LIVE_BOUT;
        }
        return now < bout.restedAt() ? NOT_RESTED : READY;
    }

    private boolean isOverAfter(Bout live, int seconds) {
        int untilOver = live.secondsUntilOver();
        if (seconds < untilOver) {
            live.goOn(seconds);
            return false;
        }
        // It ends with its own last second, also if more time passes.
        finish(live, live.winnerAsItStands(), now + untilOver);
        return true;
    }

    private boolean isOverByHit(Bout live) {
        if (!live.isDecidedByHit()) {
            return false;
        }
        finish(live, live.winnerAsItStands(), now);
        return true;
    }

    private void putOut(Bout live, Fencer fencer, Fencer other) {
        if (fencer == null) {
            return;
        }
        fencer.out = true;
        if (live.isOfTable()) {
            finish(live, other, now);
            return;
        }
        leavePiste(live, now);
        for (int i = 0; i < bouts.size(); i++) {
            Bout bout = bouts.get(i);
            if (bout.left.fencer == fencer || bout.right.fencer == fencer) {
                makeVoid(bout);
            }
        }
    }

    private void makeVoid(Bout bout) {
        if (bout.state == OVER) {
            bout.count(bout.winner, bout.left.score, bout.right.score, -1);
        }
        bout.state = VOID;
        bout.winner = null;
    }

    private void finish(Bout live, Fencer winner, int time) {
        leavePiste(live, time);
        decide(live, winner);
    }

    private void leavePiste(Bout live, int time) {
        if (isPiste(live.piste)) {
            pistes[live.piste] = null;
        }
        live.end(time);
    }

    private void decide(Bout bout, Fencer winner) {
        bout.state = OVER;
        bout.winner = winner;
        if (!bout.isOfTable()) {
            bout.count(winner, bout.left.score, bout.right.score, 1);
            return;
        }
        Fencer loser = bout.left.fencer == winner ? bout.right.fencer : bout.left.fencer;
        if (loser != null) {
            loser.standing = bout.round;
        }
        goOnInTable(bout);
    }

    private int boutsIn(int state) {
        int count = 0;
        for (int i = 0; i < bouts.size(); i++) {
            if (bouts.get(i).state == state) {
                count++;
            }
        }
        return count;
    }

    private int fencersOut() {
        int count = 0;
        for (int i = 0; i < fencers.size(); i++) {
            if (fencers.get(i).out) {
                count++;
            }
        }
        return count;
    }

    // ---- order, table, places

    /** Tells of a fencer in its pool: met, won, given, taken, and how many are ahead of it. */
    public int order(int fencer, int what)
            throws IndexOutOfBoundsException, IllegalArgumentException {
        Fencer asked = fencerAt(fencer);
        switch (what) {
            case 0:
                return asked.met;
            case 1:
                return asked.won;
            case 2:
                return asked.given;
            case 3:
                return asked.taken;
            case 4:
                return aheadInOrder(asked);
            default:
                throw new IllegalArgumentException("what is not 0 to 4");
        }
    }

    /** Draws the table without the last ones, cut of each 100; returns how many are in it. */
    public int draw(int cut) throws IllegalArgumentException, IllegalStateException {
        if (!isIn(cut, 0, GREATEST_CUT)) {
            throw new IllegalArgumentException("cut is not 0 to 50");
        }
        // Until the table is drawn, all bouts are those of the pools.
        if (pools == 0 || tableSize > 0 || boutsIn(WAITS) > 0 || boutsIn(LIVE) > 0) {
            throw new IllegalStateException("the pools are not at their end, or the table is drawn");
        }
        int left = fencers.size() - fencersOut();
        int inTable = left - left * cut / 100;
        if (inTable < 2) {
            throw new IllegalStateException("there are fewer than 2 to be in the table");
        }
        seed(inTable);
        setLines(inTable);
        addTableBouts();
        return inTable;
    }

    /** Returns the fencer on a line of the table, or -1. */
    public int line(int line) throws IndexOutOfBoundsException {
        if (!isIn(line, 0, tableSize - 1)) {
            throw new IndexOutOfBoundsException("there is no such line");
        }
        return numberOf(fencerOnLine(line));
    }

    /** Returns the place of a fencer. */
    public int place(int fencer) throws IndexOutOfBoundsException {
        Fencer asked = fencerAt(fencer);
        int ahead = 0;
        for (int i = 0; i < fencers.size(); i++) {
            if (fencers.get(i).isPlacedAheadOf(asked)) {
                ahead++;
            }
        }
        return ahead;
    }

    /** Returns the mean score in all bouts of two fencers that are over, 0 without any. */
    public double meanScore() {
        int scores = 0;
        int count = 0;
        for (int i = 0; i < bouts.size(); i++) {
            Bout bout = bouts.get(i);
            if (bout.state == OVER && bout.isKnown()) {
                scores += bout.left.score + bout.right.score;
                count += 2;
            }
        }
        return count == 0 ? 0 : (double) scores / count;
    }

    private int aheadInOrder(Fencer asked) {
        int ahead = 0;
        for (int i = 0; i < fencers.size(); i++) {
            if (fencers.get(i).isAheadOf(asked)) {
                ahead++;
            }
        }
        return ahead;
    }

    /** The fencer that has so many ahead of it in the order, null if there is none. */
    private Fencer fencerInOrder(int ahead) {
        for (int i = 0; i < fencers.size(); i++) {
            Fencer fencer = fencers.get(i);
            if (aheadInOrder(fencer) == ahead) {
                return fencer;
            }
        }
        return null;
    }

    private void seed(int inTable) {
        for (int i = 0; i < inTable && i < MOST_FENCERS; i++) {
            seeded[i] = fencerInOrder(i);
        }
    }

    private void setLines(int inTable) {
        int size = 1;
        seedsOfLines[0] = 0;
        while (size < inTable && 2 * size <= MOST_FENCERS) {
            // From the last line on, so that none is written over before it is read.
            for (int i = size - 1; i >= 0; i--) {
                int x = seedsOfLines[i];
                seedsOfLines[2 * i] = x;
                seedsOfLines[2 * i + 1] = 2 * size - 1 - x;
            }
            size *= 2;
        }
        tableSize = size;
    }

    private void addTableBouts() {
        firstOfTable = bouts.size();
        for (int i = 0; i < tableSize / 2; i++) {
            Fencer left = enteredOnLine(2 * i);
            Fencer right = enteredOnLine(2 * i + 1);
            bouts.add(new Bout(bouts.size(), 0, left, right));
        }
        int round = 1;
        for (int inRound = tableSize / 4; inRound > 0; inRound /= 2) {
            for (int i = 0; i < inRound; i++) {
                bouts.add(new Bout(bouts.size(), round, null, null));
            }
            round++;
        }
        decideWithoutOther();
    }

    private void decideWithoutOther() {
        for (int i = 0; i < tableSize / 2; i++) {
            int number = firstOfTable + i;
            if (!isIn(number, 0, bouts.size() - 1)) {
                return;
            }
            Bout bout = bouts.get(number);
            if (!bout.isKnown()) {
                decide(bout, bout.left.fencer == null ? bout.right.fencer : bout.left.fencer);
            }
        }
    }

    private Fencer enteredOnLine(int line) {
        Fencer fencer = fencerOnLine(line);
        if (fencer != null) {
            fencer.tableLine = line;
            fencer.standing = UNBEATEN;
        }
        return fencer;
    }

    private Fencer fencerOnLine(int line) {
        if (!isIn(line, 0, tableSize - 1) || !isIn(seedsOfLines[line], 0, MOST_FENCERS - 1)) {
            return null;
        }
        return seeded[seedsOfLines[line]];
    }

    private void goOnInTable(Bout bout) {
        // Each round has half as many bouts, so that of all of them, counted from 0,
        // the bout i leads to the bout SIZE / 2 + i / 2; behind the last one there is none.
        int i = bout.number - firstOfTable;
        int following = firstOfTable + tableSize / 2 + i / 2;
        if (isIn(following, 0, bouts.size() - 1)) {
            bouts.get(following).sideOf(i % 2).fencer = bout.winner;
        }
    }

    private Fencer winnerOfTable() {
        int last = bouts.size() - 1;
        return tableSize == 0 || last < 0 ? null : bouts.get(last).winner;
    }

    // ---- what would be (nothing is changed)

    /** Returns how many would be ahead of the left one, if a bout of a pool was over like that. */
    public int aheadWith(int bout, int left, int right)
            throws IndexOutOfBoundsException, IllegalArgumentException, IllegalStateException {
        Bout asked = boutAt(bout);
        if (!isIn(left, 0, POOL_GOAL) || !isIn(right, 0, POOL_GOAL) || left == right) {
            throw new IllegalArgumentException("a score is not 0 to 5, or they are the same");
        }
        Fencer leftOne = asked.left.fencer;
        if (asked.state != WAITS || asked.isOfTable() || leftOne == null) {
            throw new IllegalStateException("the bout does not wait, or is of the table");
        }
        Fencer winner = left > right ? leftOne : asked.right.fencer;
        asked.count(winner, left, right, 1);
        int ahead = aheadInOrder(leftOne);
        asked.count(winner, left, right, -1);
        return ahead;
    }

    /** Returns the round of the table in which two fencers meet, if both win until then, or -1. */
    public int meet(int one, int other) throws IndexOutOfBoundsException, IllegalArgumentException {
        int line = fencerAt(one).tableLine;
        int othersLine = fencerAt(other).tableLine;
        if (one == other) {
            throw new IllegalArgumentException("they are the same");
        }
        if (line == NONE || othersLine == NONE) {
            return NONE;
        }
        for (int round = 0; round < MOST_ROUNDS; round++) {
            line /= 2;
            othersLine /= 2;
            if (line == othersLine) {
                return round;
            }
        }
        return NONE;
    }

    /** Returns who would win a live bout within so much time without a hit, or -1. */
    public int winnerIn(int piste, int seconds)
            throws IllegalArgumentException, IllegalStateException {
        if (!isPiste(piste) || !isIn(seconds, 1, MOST_SECONDS)) {
            throw new IllegalArgumentException("piste is not 0 to 2, or seconds is not 1 to 600");
        }
        Bout live = liveBoutOn(piste);
        return seconds < live.secondsUntilOver() ? NONE : numberOf(live.winnerAsItStands());
    }

    /** Returns how many bouts that are over would not count any more with a black card. */
    public int voidWith(int fencer) throws IndexOutOfBoundsException {
        return fencerAt(fencer).met;
    }

    /** Computes a checksum of all that can be asked. */
    public long digest() {
        long d = DIGEST_START;
        for (int what = 0; what <= 10; what++) {
            d = d * DIGEST_FACTOR + many(what);
        }
        for (int i = 0; i < fencers.size(); i++) {
            d = withFencer(d, i);
        }
        for (int i = 0; i < bouts.size(); i++) {
            d = withBout(d, i);
        }
        d = d * DIGEST_FACTOR + next();
        for (int i = 0; i < tableSize; i++) {
            d = d * DIGEST_FACTOR + line(i);
        }
        return d;
    }

    private long withFencer(long before, int fencer) {
        long d = before;
        for (int what = 0; what <= 6; what++) {
            d = d * DIGEST_FACTOR + of(fencer, what);
        }
        for (int what = 0; what <= 4; what++) {
            d = d * DIGEST_FACTOR + order(fencer, what);
        }
        d = d * DIGEST_FACTOR + place(fencer);
        return d * DIGEST_FACTOR + voidWith(fencer);
    }

    private long withBout(long before, int bout) {
        long d = before;
        for (int what = 0; what <= 11; what++) {
            d = d * DIGEST_FACTOR + ofBout(bout, what);
        }
        return d * DIGEST_FACTOR + reason(bout);
    }

    // ---- what the calls are asked with

    private static boolean isIn(int number, int from, int to) {
        return number >= from && number <= to;
    }

    private static boolean isPiste(int piste) {
        return isIn(piste, 0, PISTES - 1);
    }

    private static int numberOf(Fencer fencer) {
        return fencer == null ? NONE : fencer.number;
    }

    private Fencer fencerAt(int fencer) {
        if (!isIn(fencer, 0, fencers.size() - 1)) {
            throw new IndexOutOfBoundsException("there is no such fencer");
        }
        return fencers.get(fencer);
    }

    private Bout boutAt(int bout) {
        if (!isIn(bout, 0, bouts.size() - 1)) {
            throw new IndexOutOfBoundsException("there is no such bout");
        }
        return bouts.get(bout);
    }

    private Bout liveBoutOn(int piste) {
        Bout live = isPiste(piste) ? pistes[piste] : null;
        if (live == null) {
            throw new IllegalStateException("no bout is live there");
        }
        return live;
    }
}
