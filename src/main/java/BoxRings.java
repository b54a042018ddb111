import java.util.Arrays;

/** A room of boxes with slips in them, and of seekers who may open so few: see README.md. */
public final class BoxRings {
    public static final int NONE = -1, BAD = -2, NO = -3, FULL = -4;

    private static final int NOT_SO_MANY = -5;
    private static final int BAD_QUESTION = -10;

    private static final int LEAST_BOXES = 2;
    private static final int MOST_BOXES = 7;
    private static final int BOXES_AT_FIRST = 5;
    private static final int LEAVE_AT_FIRST = 2;
    private static final int TURN_AT_FIRST = 1;
    private static final int MOST_TURN = 6;
    private static final int MOST_WAYS = 5040;
    private static final int MOST_REPORTS = 8;
    private static final int MOST_MOVES = 4;
    private static final int MOST_UNDONE = 10;
    private static final int MOST_BYTES = 150;
    private static final int LAST_BYTE = 127;
    private static final int MOST_WORKED = 99;
    private static final int LAST_SEED = 999999;
    private static final int MOST_SEEDS = 60;
    private static final int IMAGES = 2;

    private static final int RING = 0;
    private static final int ROW = 1;
    private static final int BACK = 2;
    private static final int EVEN = 3;
    private static final int TURNED = 4;
    private static final int STRIDE = 5;
    private static final int RULES = 6;

    /** At n: how many WAYS n BOXES have. */
    private static final int[] WAYS_OF = {1, 1, 2, 6, 24, 120, 720, 5040};

    private final Room room = new Room();
    private final Room draft = new Room();
    private final Room[] images = new Room[IMAGES];
    private final Text text = new Text();
    private final Search search = new Search();
    private final int[] trial = new int[MOST_BOXES];
    private final int[] tally = new int[MOST_BOXES * MOST_BOXES];
    // Made by the first call that needs it: its rows are long, and most objects do without.
    private Reach reach = null;
    private long above = 0;
    private long below = 1;
    private int refusedAsBad = 0;
    private int refusedAsNo = 0;
    private int refusedAsFull = 0;

    public BoxRings() {
    }

    // ---- a room

    public int boxes(int n) {
        if (n < LEAST_BOXES || n > MOST_BOXES) {
            return refuseBad();
        }
        int was = room.boxCount;
        room.setAsAtFirst(n);
        return was;
    }

    public int put(int what, int v) {
        if (what == 0) {
            return putLeave(v);
        }
        if (what != 1 || v < 0 || v > MOST_TURN) {
            return refuseBad();
        }
        int was = room.turn;
        room.turn = v;
        return was;
    }

    private int putLeave(int v) {
        if (v < 1 || v > room.boxCount) {
            return refuseBad();
        }
        int was = room.leave;
        room.leave = v;
        return was;
    }

    public int rule(int seeker, int rule) {
        if (isNoBox(seeker) || rule < 0 || rule >= RULES) {
            return refuseBad();
        }
        int was = room.rules[seeker];
        room.rules[seeker] = rule;
        return was;
    }

    public int swap(int a, int b) {
        if (isNoBox(a) || isNoBox(b) || a == b) {
            return refuseBad();
        }
        room.keepPast();
        Ways.exchange(room.slips, a, b);
        return 1;
    }

    public int lay(int rank) {
        if (isNoRank(rank)) {
            return refuseBad();
        }
        int was = room.rankNow();
        room.keepPast();
        Ways.setToRank(room.slips, room.boxCount, rank);
        return was;
    }

    public int undo() {
        if (room.pastCount == 0) {
            return refuseNo();
        }
        room.goBack();
        return 1;
    }

    public int know(int box, int slip) {
        if (isNoBox(box) || isNoBox(slip)) {
            return refuseBad();
        }
        if (room.known[box] != NONE || room.isKnownSlip(slip)) {
            return refuseNo();
        }
        room.known[box] = slip;
        return 1;
    }

    public int report(int seeker, int j) {
        if (isNoBox(seeker) || j < 0 || j > room.boxCount) {
            return refuseBad();
        }
        if (room.reportCount >= MOST_REPORTS) {
            return refuseFull();
        }
        return room.addReport(seeker, j);
    }

    public int forget(int what) {
        if (what == 0) {
            int were = room.knownCount();
            Arrays.fill(room.known, NONE);
            return were;
        }
        if (what == 1) {
            int were = room.reportCount;
            room.reportCount = 0;
            return were;
        }
        return refuseBad();
    }

    public int type(int c) {
        if (c < 0 || c > LAST_BYTE) {
            return refuseBad();
        }
        if (text.length >= MOST_BYTES) {
            return refuseFull();
        }
        text.bytes[text.length] = (byte) c;
        text.length++;
        return text.length;
    }

    public int clear() {
        int had = text.length;
        text.length = 0;
        return had;
    }

    public int read() {
        int items = text.tellItems(draft);
        if (items >= 0) {
            room.copyOf(draft);
        }
        return items;
    }

    // ---- as it lies

    public int slip(int box) {
        if (isNoBox(box)) {
            return refuseBad();
        }
        return room.slips[box];
    }

    public int rank() {
        return room.rankNow();
    }

    public int rings(int box) {
        if (box == NONE) {
            return Ways.ringCount(room.slips, room.boxCount);
        }
        if (isNoBox(box)) {
            return refuseQuestion();
        }
        return Ways.ringLength(room.slips, room.boxCount, box);
    }

    public int opened(int seeker, int i) {
        if (isNoBox(seeker) || i < NONE) {
            return refuseQuestion();
        }
        search.seek(room, room.slips, seeker, room.rules[seeker]);
        if (i == NONE) {
            return search.count;
        }
        return i < search.count ? search.boxes[i] : NOT_SO_MANY;
    }

    public int finds() {
        return findersIn(room.slips);
    }

    public int worked(int m) {
        if (m < 0 || m > MOST_WORKED) {
            return refuseBad();
        }
        for (int b = 0; b < room.boxCount; b++) {
            trial[b] = Ways.stepsFrom(room.slips, b, m);
        }
        return Ways.rankOf(trial, room.boxCount);
    }

    public int back() {
        long all = 1;
        for (int b = 0; b < room.boxCount; b++) {
            int length = Ways.ringLength(room.slips, room.boxCount, b);
            all = all / commonDivisor(all, length) * length;
        }
        return (int) all;
    }

    public int undoes() {
        for (int b = 0; b < room.boxCount; b++) {
            trial[room.slips[b]] = b;
        }
        return Ways.rankOf(trial, room.boxCount);
    }

    public int goesWith() {
        int n = room.boxCount;
        int ways = 0;
        Ways.setToFirst(trial, n);
        for (int rank = 0; rank < WAYS_OF[n]; rank++) {
            if (Ways.areExchangeable(room.slips, trial, n)) {
                ways++;
            }
            Ways.setToNext(trial, n);
        }
        return ways;
    }

    public int roots(int m) {
        if (m < 2 || m > 9) {
            return refuseBad();
        }
        int n = room.boxCount;
        int ways = 0;
        Ways.setToFirst(trial, n);
        for (int rank = 0; rank < WAYS_OF[n]; rank++) {
            if (Ways.isRoot(trial, m, room.slips, n)) {
                ways++;
            }
            Ways.setToNext(trial, n);
        }
        return ways;
    }

    public int alike(int rank) {
        if (isNoRank(rank)) {
            return refuseBad();
        }
        int n = room.boxCount;
        Ways.setToRank(trial, n, rank);
        return Ways.ringMark(trial, n) == Ways.ringMark(room.slips, n) ? 1 : 0;
    }

    public int even() {
        int swaps = room.boxCount - Ways.ringCount(room.slips, room.boxCount);
        return swaps % 2 == 0 ? 1 : 0;
    }

    // ---- moves

    public int move(int rank) {
        if (isNoRank(rank)) {
            return refuseBad();
        }
        if (room.moveCount >= MOST_MOVES) {
            return refuseFull();
        }
        return room.addMove(rank);
    }

    public int drop() {
        if (room.moveCount == 0) {
            return refuseNo();
        }
        room.moveCount--;
        return room.moveCount;
    }

    public int make(int move) {
        if (move < 0 || move >= room.moveCount) {
            return refuseBad();
        }
        room.makeMove(move, trial);
        return room.rankNow();
    }

    public int group() {
        return reachNow().count;
    }

    public int fewest(int rank, int i) {
        if (isNoRank(rank) || i < NONE) {
            return refuseQuestion();
        }
        return reachNow().moveTo(rank, i);
    }

    public int till(int i) {
        if (i < NONE) {
            return refuseQuestion();
        }
        Reach now = reachNow();
        for (int p = 0; p < now.count; p++) {
            int rank = now.row[p];
            Ways.setToRank(trial, room.boxCount, rank);
            if (doAllFind(trial)) {
                return now.moveTo(rank, i);
            }
        }
        return NONE;
    }

    private Reach reachNow() {
        if (reach == null) {
            reach = new Reach();
        }
        reach.spreadFrom(room);
        return reach;
    }

    // ---- what may be

    public int mayBe(int i) {
        if (i < NONE) {
            return refuseQuestion();
        }
        int n = room.boxCount;
        int ways = 0;
        Ways.setToFirst(trial, n);
        for (int rank = 0; rank < WAYS_OF[n]; rank++) {
            if (mayTrialBe()) {
                if (ways == i) {
                    return rank;
                }
                ways++;
            }
            Ways.setToNext(trial, n);
        }
        return i == NONE ? ways : NOT_SO_MANY;
    }

    public int chance(int seekers) {
        int n = room.boxCount;
        if (seekers < 0 || seekers >= 1 << n) {
            return refuseBad();
        }
        int ways = 0;
        int lucky = 0;
        Ways.setToFirst(trial, n);
        for (int rank = 0; rank < WAYS_OF[n]; rank++) {
            if (mayTrialBe()) {
                ways++;
                lucky += doTheseFind(trial, seekers) ? 1 : 0;
            }
            Ways.setToNext(trial, n);
        }
        if (ways == 0) {
            return refuseNo();
        }
        setFraction(lucky, ways);
        return 1;
    }

    public int look() {
        int ways = tallySlips();
        if (ways == 0) {
            return refuseNo();
        }
        int best = NONE;
        long least = 0;
        for (int b = 0; b < room.boxCount; b++) {
            if (room.known[b] == NONE) {
                long squares = sumOfSquares(b);
                if (best == NONE || squares < least) {
                    best = b;
                    least = squares;
                }
            }
        }
        if (best != NONE) {
            setFraction(least, ways);
        }
        return best;
    }

    /** Tells of each BOX how often it has each SLIP in WAYS that MAY BE; answers how many these are. */
    private int tallySlips() {
        int n = room.boxCount;
        int ways = 0;
        Arrays.fill(tally, 0);
        Ways.setToFirst(trial, n);
        for (int rank = 0; rank < WAYS_OF[n]; rank++) {
            if (mayTrialBe()) {
                ways++;
                for (int b = 0; b < n; b++) {
                    tally[b * MOST_BOXES + trial[b]]++;
                }
            }
            Ways.setToNext(trial, n);
        }
        return ways;
    }

    // A SLIP leaves as many WAYS as have it, and is as likely as these are many: hence squares.
    private long sumOfSquares(int box) {
        long sum = 0;
        for (int s = 0; s < room.boxCount; s++) {
            long ways = tally[box * MOST_BOXES + s];
            sum += ways * ways;
        }
        return sum;
    }

    public int advice() {
        int ways = tallyRules();
        if (ways == 0) {
            return refuseNo();
        }
        int best = RING;
        for (int rule = 1; rule < RULES; rule++) {
            if (tally[rule] > tally[best]) {
                best = rule;
            }
        }
        setFraction(tally[best], ways);
        return best;
    }

    /** Tells of each RULE in how many WAYS that MAY BE all FIND by it; answers how many these are. */
    private int tallyRules() {
        int n = room.boxCount;
        int ways = 0;
        Arrays.fill(tally, 0);
        Ways.setToFirst(trial, n);
        for (int rank = 0; rank < WAYS_OF[n]; rank++) {
            if (mayTrialBe()) {
                ways++;
                for (int rule = 0; rule < RULES; rule++) {
                    tally[rule] += doAllFindBy(trial, rule) ? 1 : 0;
                }
            }
            Ways.setToNext(trial, n);
        }
        return ways;
    }

    public int worst(int what) {
        if (what != 0 && what != 1) {
            return refuseBad();
        }
        int n = room.boxCount;
        int worstRank = NONE;
        int fewestFind = 0;
        Ways.setToFirst(trial, n);
        for (int rank = 0; rank < WAYS_OF[n]; rank++) {
            if (mayTrialBe()) {
                int find = Integer.bitCount(findersIn(trial));
                if (worstRank == NONE || find < fewestFind) {
                    worstRank = rank;
                    fewestFind = find;
                }
            }
            Ways.setToNext(trial, n);
        }
        if (worstRank == NONE) {
            return refuseNo();
        }
        return what == 0 ? worstRank : fewestFind;
    }

    public int mended() {
        int n = room.boxCount;
        int fewestSwaps = NONE;
        Ways.setToFirst(trial, n);
        for (int rank = 0; rank < WAYS_OF[n]; rank++) {
            if (doAllFind(trial)) {
                int swaps = Ways.swapsBetween(room.slips, trial, n);
                if (fewestSwaps == NONE || swaps < fewestSwaps) {
                    fewestSwaps = swaps;
                }
            }
            Ways.setToNext(trial, n);
        }
        return fewestSwaps;
    }

    public int third(int what) {
        if (what != 0 && what != 1) {
            return refuseBad();
        }
        // An enemy's gain is what a friend loses: one sign serves both.
        int sign = what == 0 ? 1 : -1;
        int n = room.boxCount;
        int best = sign * Integer.bitCount(findersIn(room.slips));
        int pair = NONE;
        System.arraycopy(room.slips, 0, trial, 0, MOST_BOXES);
        for (int a = 0; a < n; a++) {
            for (int b = a + 1; b < n; b++) {
                Ways.exchange(trial, a, b);
                int gain = sign * Integer.bitCount(findersIn(trial));
                Ways.exchange(trial, a, b);
                if (gain > best) {
                    best = gain;
                    pair = 10 * a + b;
                }
            }
        }
        return pair;
    }

    public int laid(int seed) {
        if (seed < 0 || seed > LAST_SEED) {
            return refuseBad();
        }
        Ways.setBySeed(trial, room.boxCount, seed);
        return Ways.rankOf(trial, room.boxCount);
    }

    public int lucky(int seed, int y) {
        if (seed < 0 || seed > LAST_SEED || y < 0 || y > MOST_SEEDS) {
            return refuseBad();
        }
        int times = 0;
        for (int i = 0; i < y; i++) {
            Ways.setBySeed(trial, room.boxCount, seed + i);
            times += doAllFind(trial) ? 1 : 0;
        }
        return times;
    }

    // ---- what there is

    public long part(int what) {
        if (what == 0) {
            return above;
        }
        if (what == 1) {
            return below;
        }
        return refuseBad();
    }

    public int image(int i) {
        if (i < 0 || i >= IMAGES) {
            return refuseBad();
        }
        Room kept = images[i];
        if (kept == null) {
            kept = new Room();
            images[i] = kept;
        }
        kept.copyOf(room);
        return 1;
    }

    public int from(int i) {
        if (i < 0 || i >= IMAGES) {
            return refuseBad();
        }
        Room kept = images[i];
        if (kept == null) {
            return refuseNo();
        }
        room.copyOf(kept);
        return 1;
    }

    public int status(int what) {
        switch (what) {
            case 0: return refusedAsBad;
            case 1: return refusedAsNo;
            case 2: return refusedAsFull;
            default:
                refuseBad();
                return -1;
        }
    }

    public int count(int what) {
        if (what < 0 || what >= 8) {
            return refuseBad();
        }
        return howMany(what);
    }

    private int howMany(int what) {
        switch (what) {
            case 0: return room.boxCount;
            case 1: return room.leave;
            case 2: return room.turn;
            case 3: return room.knownCount();
            case 4: return room.reportCount;
            case 5: return room.pastCount;
            case 6: return text.length;
            default: return room.moveCount;
        }
    }

    public long digest() {
        long h = 823;
        for (int what = 0; what < 8; what++) {
            h = 31 * h + howMany(what);
        }
        for (int b = 0; b < room.boxCount; b++) {
            h = 31 * h + room.slips[b];
            h = 31 * h + room.known[b];
        }
        for (int s = 0; s < room.boxCount; s++) {
            h = 31 * h + room.rules[s];
        }
        for (int r = 0; r < room.reportCount; r++) {
            h = 31 * h + room.reportSeekers[r];
            h = 31 * h + room.reportOpened[r];
        }
        for (int m = 0; m < room.moveCount; m++) {
            h = 31 * h + room.moveRanks[m];
        }
        h = 31 * h + above;
        return 31 * h + below;
    }

    // ---- helpers of several calls

    private int refuseBad() {
        refusedAsBad++;
        return BAD;
    }

    private int refuseQuestion() {
        refusedAsBad++;
        return BAD_QUESTION;
    }

    private int refuseNo() {
        refusedAsNo++;
        return NO;
    }

    private int refuseFull() {
        refusedAsFull++;
        return FULL;
    }

    // SEEKERS and SLIPS have the same numbers as BOXES.
    private boolean isNoBox(int number) {
        return number < 0 || number >= room.boxCount;
    }

    private boolean isNoRank(int rank) {
        return rank < 0 || rank >= WAYS_OF[room.boxCount];
    }

    private void setFraction(long over, long under) {
        long divisor = commonDivisor(over, under);
        above = over / divisor;
        below = under / divisor;
    }

    /** The greatest number that divides both: above 0, if one of them is. */
    private static long commonDivisor(long a, long b) {
        long greater = a;
        long lesser = b;
        for (int i = 0; i < 100 && lesser != 0; i++) {
            long rest = greater % lesser;
            greater = lesser;
            lesser = rest;
        }
        return Math.max(1, greater);
    }

    private boolean doesFind(int[] slips, int seeker, int rule) {
        search.seek(room, slips, seeker, rule);
        return search.found;
    }

    private int findersIn(int[] slips) {
        int bits = 0;
        for (int s = 0; s < room.boxCount; s++) {
            if (doesFind(slips, s, room.rules[s])) {
                bits |= 1 << s;
            }
        }
        return bits;
    }

    private boolean doTheseFind(int[] slips, int seekers) {
        for (int s = 0; s < room.boxCount; s++) {
            if ((seekers >> s & 1) == 1 && !doesFind(slips, s, room.rules[s])) {
                return false;
            }
        }
        return true;
    }

    private boolean doAllFind(int[] slips) {
        return doTheseFind(slips, (1 << room.boxCount) - 1);
    }

    private boolean doAllFindBy(int[] slips, int rule) {
        for (int s = 0; s < room.boxCount; s++) {
            if (!doesFind(slips, s, rule)) {
                return false;
            }
        }
        return true;
    }

    /** Whether the WAY in trial has what is KNOWN, and all REPORTS so. */
    private boolean mayTrialBe() {
        for (int b = 0; b < room.boxCount; b++) {
            if (room.known[b] != NONE && room.known[b] != trial[b]) {
                return false;
            }
        }
        for (int r = 0; r < room.reportCount; r++) {
            int seeker = room.reportSeekers[r];
            search.seek(room, trial, seeker, room.rules[seeker]);
            int told = search.found ? search.count : 0;
            if (told != room.reportOpened[r]) {
                return false;
            }
        }
        return true;
    }

    /** All that an IMAGE keeps. */
    private static final class Room {
        int boxCount;
        int leave;
        int turn;
        final int[] slips = new int[MOST_BOXES];
        final int[] known = new int[MOST_BOXES];
        final int[] rules = new int[MOST_BOXES];
        int reportCount;
        final int[] reportSeekers = new int[MOST_REPORTS];
        final int[] reportOpened = new int[MOST_REPORTS];
        int moveCount;
        final int[] moveRanks = new int[MOST_MOVES];
        int pastCount;
        final int[] pastRanks = new int[MOST_UNDONE];
        private final int[] moved = new int[MOST_BOXES];

        Room() {
            setAsAtFirst(BOXES_AT_FIRST);
        }

        void setAsAtFirst(int n) {
            boxCount = n;
            leave = LEAVE_AT_FIRST;
            turn = TURN_AT_FIRST;
            Ways.setToFirst(slips, n);
            Arrays.fill(known, NONE);
            Arrays.fill(rules, RING);
            reportCount = 0;
            moveCount = 0;
            pastCount = 0;
        }

        void copyOf(Room other) {
            boxCount = other.boxCount;
            leave = other.leave;
            turn = other.turn;
            System.arraycopy(other.slips, 0, slips, 0, MOST_BOXES);
            System.arraycopy(other.known, 0, known, 0, MOST_BOXES);
            System.arraycopy(other.rules, 0, rules, 0, MOST_BOXES);
            reportCount = other.reportCount;
            System.arraycopy(other.reportSeekers, 0, reportSeekers, 0, MOST_REPORTS);
            System.arraycopy(other.reportOpened, 0, reportOpened, 0, MOST_REPORTS);
            moveCount = other.moveCount;
            System.arraycopy(other.moveRanks, 0, moveRanks, 0, MOST_MOVES);
            pastCount = other.pastCount;
            System.arraycopy(other.pastRanks, 0, pastRanks, 0, MOST_UNDONE);
        }

        int rankNow() {
            return Ways.rankOf(slips, boxCount);
        }

        /** To be called ahead of each change of the WAY that may be undone. */
        void keepPast() {
            if (pastCount >= MOST_UNDONE) {
                System.arraycopy(pastRanks, 1, pastRanks, 0, MOST_UNDONE - 1);
                pastCount = MOST_UNDONE - 1;
            }
            pastRanks[pastCount] = rankNow();
            pastCount++;
        }

        void goBack() {
            if (pastCount > 0) {
                pastCount--;
                Ways.setToRank(slips, boxCount, pastRanks[pastCount]);
            }
        }

        int knownCount() {
            int many = 0;
            for (int b = 0; b < boxCount; b++) {
                many += known[b] != NONE ? 1 : 0;
            }
            return many;
        }

        boolean isKnownSlip(int slip) {
            for (int b = 0; b < boxCount; b++) {
                if (known[b] == slip) {
                    return true;
                }
            }
            return false;
        }

        int addReport(int seeker, int j) {
            if (reportCount >= MOST_REPORTS) {
                return FULL;
            }
            reportSeekers[reportCount] = seeker;
            reportOpened[reportCount] = j;
            reportCount++;
            return reportCount - 1;
        }

        int addMove(int rank) {
            if (moveCount >= MOST_MOVES) {
                return FULL;
            }
            moveRanks[moveCount] = rank;
            moveCount++;
            return moveCount - 1;
        }

        void makeMove(int move, int[] spare) {
            keepPast();
            Ways.setToRank(spare, boxCount, moveRanks[move]);
            Ways.setMoved(moved, slips, spare, boxCount);
            System.arraycopy(moved, 0, slips, 0, boxCount);
        }
    }

    /** What one WAY, a row of SLIPS by BOX, is or becomes; in each n is how many BOXES it has. */
    private static final class Ways {
        private Ways() {
        }

        static void setToFirst(int[] slips, int n) {
            for (int b = 0; b < n; b++) {
                slips[b] = b;
            }
        }

        static void exchange(int[] slips, int a, int b) {
            int slip = slips[a];
            slips[a] = slips[b];
            slips[b] = slip;
        }

        /** The WAY of the next RANK; behind the last WAY comes the first. */
        static void setToNext(int[] slips, int n) {
            int rise = n - 2;
            while (rise >= 0 && slips[rise] > slips[rise + 1]) {
                rise--;
            }
            if (rise >= 0) {
                int greater = n - 1;
                while (greater > rise && slips[greater] < slips[rise]) {
                    greater--;
                }
                exchange(slips, rise, greater);
            }
            int low = rise + 1;
            int high = n - 1;
            while (low < high) {
                exchange(slips, low, high);
                low++;
                high--;
            }
        }

        static int rankOf(int[] slips, int n) {
            int left = (1 << n) - 1;
            int rank = 0;
            for (int b = 0; b < n; b++) {
                int bit = 1 << slips[b];
                rank += Integer.bitCount(left & bit - 1) * WAYS_OF[n - 1 - b];
                left &= ~bit;
            }
            return rank;
        }

        static void setToRank(int[] slips, int n, int rank) {
            int left = (1 << n) - 1;
            int rest = rank;
            for (int b = 0; b < n; b++) {
                int behind = WAYS_OF[n - 1 - b];
                int slip = slipLeft(left, n, rest / behind);
                slips[b] = slip;
                left &= ~(1 << slip);
                rest %= behind;
            }
        }

        /** Of the SLIPS that are left (bits) that which has so many lesser ones with it. */
        private static int slipLeft(int left, int n, int lesser) {
            int passed = 0;
            for (int slip = 0; slip < n; slip++) {
                if ((left >> slip & 1) == 1) {
                    if (passed == lesser) {
                        return slip;
                    }
                    passed++;
                }
            }
            return 0;
        }

        static void setBySeed(int[] slips, int n, int seed) {
            setToFirst(slips, n);
            long x = seed;
            for (int b = n - 1; b >= 1; b--) {
                x = (x * 1103515245L + 12345L) % 2147483648L;
                exchange(slips, b, (int) (x / 65536L % (b + 1)));
            }
        }

        static int stepsFrom(int[] slips, int box, int steps) {
            int at = box;
            for (int i = 0; i < steps; i++) {
                at = slips[at];
            }
            return at;
        }

        static int ringLength(int[] slips, int n, int box) {
            int length = 1;
            int at = slips[box];
            while (at != box && length < n) {
                at = slips[at];
                length++;
            }
            return length;
        }

        static int ringCount(int[] slips, int n) {
            int passed = 0;
            int count = 0;
            for (int b = 0; b < n; b++) {
                if ((passed >> b & 1) == 0) {
                    count++;
                    int at = b;
                    for (int i = 0; i < n; i++) {
                        passed |= 1 << at;
                        at = slips[at];
                    }
                }
            }
            return count;
        }

        /** A number that two WAYS share if they have as many RINGS of each length: in four bits
            for each length how many BOXES lie in RINGS of it. */
        static long ringMark(int[] slips, int n) {
            long mark = 0;
            for (int b = 0; b < n; b++) {
                mark += 1L << 4 * ringLength(slips, n, b);
            }
            return mark;
        }

        /** The fewest SWAPS that lead from one WAY to another: BOXES less RINGS of what lies between. */
        static int swapsBetween(int[] one, int[] other, int n) {
            int passed = 0;
            int count = 0;
            for (int b = 0; b < n; b++) {
                if ((passed >> b & 1) == 0) {
                    count++;
                    int at = b;
                    for (int i = 0; i < n; i++) {
                        passed |= 1 << at;
                        at = boxOf(one, n, other[at]);
                    }
                }
            }
            return n - count;
        }

        private static int boxOf(int[] slips, int n, int slip) {
            for (int b = 0; b < n; b++) {
                if (slips[b] == slip) {
                    return b;
                }
            }
            return 0;
        }

        static boolean areExchangeable(int[] one, int[] other, int n) {
            for (int b = 0; b < n; b++) {
                if (one[other[b]] != other[one[b]]) {
                    return false;
                }
            }
            return true;
        }

        static boolean isRoot(int[] root, int m, int[] slips, int n) {
            for (int b = 0; b < n; b++) {
                if (stepsFrom(root, b, m) != slips[b]) {
                    return false;
                }
            }
            return true;
        }

        /** The WAY that comes of a WAY by a MOVE. */
        static void setMoved(int[] to, int[] slips, int[] move, int n) {
            for (int b = 0; b < n; b++) {
                to[move[b]] = slips[b];
            }
        }
    }

    /** What one SEEKER opens, and whether he FINDS. */
    private static final class Search {
        final int[] boxes = new int[MOST_BOXES];
        int count = 0;
        boolean found = false;
        private int openedBits = 0;

        Search() {
        }

        void seek(Room room, int[] slips, int seeker, int rule) {
            count = 0;
            found = false;
            openedBits = 0;
            int box = 0;
            int number = seeker;
            while (count < room.leave && count < room.boxCount && !found) {
                box = nextBox(room, rule, box, number);
                boxes[count] = box;
                count++;
                openedBits |= 1 << box;
                number = slips[box];
                found = number == seeker;
            }
        }

        /** By the BOX opened last and the number found last (of which the first is his own). */
        private int nextBox(Room room, int rule, int last, int number) {
            int n = room.boxCount;
            switch (rule) {
                case ROW:
                    return count;
                case BACK:
                    return n - 1 - count;
                case EVEN:
                    return 2 * count < n ? 2 * count : 2 * (count - (n + 1) / 2) + 1;
                case TURNED:
                    return closedFrom((number + room.turn) % n, n);
                case STRIDE:
                    return count == 0 ? 0 : closedFrom((last + Math.max(1, room.turn)) % n, n);
                default:
                    return number;
            }
        }

        private int closedFrom(int box, int n) {
            int at = box;
            for (int i = 0; i < n && (openedBits >> at & 1) == 1; i++) {
                at = (at + 1) % n;
            }
            return at;
        }
    }

    /** The WAYS that can be come to by MOVES, in the order of fewest MOVES, then of the first row. */
    private static final class Reach {
        private static final int START = -2;

        final int[] row = new int[MOST_WAYS];
        int count = 0;
        // By RANK: 4 times the RANK that it was come from, and the MOVE; NONE; START.
        private final int[] origins = new int[MOST_WAYS];
        private final int[] slips = new int[MOST_BOXES];
        private final int[] moved = new int[MOST_BOXES];
        private final int[][] moves = new int[MOST_MOVES][MOST_BOXES];
        // What the row was made for: calls that ask for one MOVE after the other find it made.
        private int madeForBoxes = 0;
        private int madeForMoves = 0;
        private final int[] madeForRanks = new int[MOST_MOVES];

        Reach() {
        }

        private boolean isMadeFor(Room room) {
            if (madeForBoxes != room.boxCount || madeForMoves != room.moveCount || row[0] != room.rankNow()) {
                return false;
            }
            for (int m = 0; m < room.moveCount; m++) {
                if (madeForRanks[m] != room.moveRanks[m]) {
                    return false;
                }
            }
            return true;
        }

        // A first-in first-out row, lesser MOVES ahead, meets each WAY first by its first row.
        void spreadFrom(Room room) {
            if (isMadeFor(room)) {
                return;
            }
            int n = room.boxCount;
            madeForBoxes = n;
            madeForMoves = room.moveCount;
            System.arraycopy(room.moveRanks, 0, madeForRanks, 0, MOST_MOVES);
            for (int m = 0; m < room.moveCount; m++) {
                Ways.setToRank(moves[m], n, room.moveRanks[m]);
            }
            Arrays.fill(origins, NONE);
            count = 0;
            add(room.rankNow(), START);
            // The row grows as it is walked: by MOST_WAYS its end is seen.
            for (int p = 0; p < count && p < MOST_WAYS; p++) {
                int rank = row[p];
                Ways.setToRank(slips, n, rank);
                for (int m = 0; m < room.moveCount; m++) {
                    Ways.setMoved(moved, slips, moves[m], n);
                    add(Ways.rankOf(moved, n), MOST_MOVES * rank + m);
                }
            }
        }

        private void add(int rank, int origin) {
            if (origins[rank] == NONE && count < MOST_WAYS) {
                origins[rank] = origin;
                row[count] = rank;
                count++;
            }
        }

        /** How many MOVES lead to the WAY of a RANK (i = NONE), or the i-th. */
        int moveTo(int rank, int i) {
            if (origins[rank] == NONE) {
                return NONE;
            }
            int length = 0;
            for (int at = rank; origins[at] >= 0 && length < MOST_WAYS; at = origins[at] / MOST_MOVES) {
                length++;
            }
            if (i == NONE) {
                return length;
            }
            if (i >= length) {
                return NOT_SO_MANY;
            }
            int at = rank;
            for (int back = length - 1; back > i; back--) {
                at = origins[at] / MOST_MOVES;
            }
            return origins[at] % MOST_MOVES;
        }
    }

    /** THE TEXT, and how a ROOM is read from it. */
    private static final class Text {
        private static final int AT_END = 0;
        private static final int WORD = 1;
        private static final int NUMBER = 2;
        private static final int ITEM_END = 3;
        private static final int BROKEN = 4;

        private static final int MOST_FIGURES = 4;
        private static final int GREATEST_NUMBER = 9999;

        private static final int BOXES = 0;
        private static final int LEAVE = 1;
        private static final int TURN = 2;
        private static final int RULE = 3;
        private static final int SWAP = 4;
        private static final int FOUND = 5;
        private static final int MISSED = 6;
        private static final int KNOWN = 7;
        private static final int MOVE = 8;
        private static final int WORDS = 9;

        final byte[] bytes = new byte[MOST_BYTES];
        int length = 0;
        private int at = 0;
        private int tokenKind = AT_END;
        private int tokenStart = 0;
        private int tokenNumber = 0;

        Text() {
        }

        /** Sets draft to THE ROOM that is told; answers how many ITEMS, or -10 less the FAULT. */
        int tellItems(Room draft) {
            at = 0;
            for (int items = 0; items < MOST_BYTES; items++) {
                toNextToken();
                if (tokenKind == AT_END && items > 0) {
                    return items;
                }
                if (!takeItem(draft, items == 0)) {
                    return -10 - tokenStart;
                }
            }
            return -10 - tokenStart;
        }

        /** Whether an ITEM stands here; if not, the FAULT is the token that was come to. */
        private boolean takeItem(Room draft, boolean first) {
            int word = tokenKind == WORD ? wordNow() : NONE;
            if (word == NONE || first != (word == BOXES) || !hasPlace(draft, word)) {
                return false;
            }
            toNextToken();
            int one = tokenNumber;
            if (tokenKind != NUMBER || !isFirstDue(draft, word, one)) {
                return false;
            }
            int other = NONE;
            if (hasTwoNumbers(word)) {
                toNextToken();
                other = tokenNumber;
                if (tokenKind != NUMBER || !isSecondDue(draft, word, one, other)) {
                    return false;
                }
            }
            takeEffect(draft, word, one, other);
            toNextToken();
            return tokenKind == ITEM_END;
        }

        private static String wordAt(int i) {
            switch (i) {
                case BOXES: return "boxes";
                case LEAVE: return "leave";
                case TURN: return "turn";
                case RULE: return "rule";
                case SWAP: return "swap";
                case FOUND: return "found";
                case MISSED: return "missed";
                case KNOWN: return "known";
                default: return "move";
            }
        }

        private int wordNow() {
            for (int i = 0; i < WORDS; i++) {
                if (isTokenWord(wordAt(i))) {
                    return i;
                }
            }
            return NONE;
        }

        private boolean isTokenWord(String word) {
            if (at - tokenStart != word.length()) {
                return false;
            }
            for (int i = 0; i < word.length(); i++) {
                if (bytes[tokenStart + i] != word.charAt(i)) {
                    return false;
                }
            }
            return true;
        }

        private static boolean hasPlace(Room draft, int word) {
            switch (word) {
                case FOUND:
                case MISSED: return draft.reportCount < MOST_REPORTS;
                case MOVE: return draft.moveCount < MOST_MOVES;
                default: return true;
            }
        }

        private static boolean hasTwoNumbers(int word) {
            return word == RULE || word == SWAP || word == FOUND || word == KNOWN;
        }

        private static boolean isFirstDue(Room draft, int word, int v) {
            switch (word) {
                case BOXES: return v >= LEAST_BOXES && v <= MOST_BOXES;
                // The document: "LEAVE: 1 .. n; .. more than n is n"; only put refuses what is more.
                case LEAVE: return v >= 1;
                case TURN: return v <= MOST_TURN;
                case KNOWN: return v < draft.boxCount && draft.known[v] == NONE;
                case MOVE: return v < WAYS_OF[draft.boxCount];
                default: return v < draft.boxCount;
            }
        }

        private static boolean isSecondDue(Room draft, int word, int one, int v) {
            switch (word) {
                case RULE: return v < RULES;
                case SWAP: return v < draft.boxCount && v != one;
                case FOUND: return v >= 1 && v <= draft.boxCount;
                default: return v < draft.boxCount && !draft.isKnownSlip(v);
            }
        }

        private static void takeEffect(Room draft, int word, int one, int other) {
            switch (word) {
                case BOXES: draft.setAsAtFirst(one); break;
                case LEAVE: draft.leave = Math.min(one, draft.boxCount); break;
                case TURN: draft.turn = one; break;
                case RULE: draft.rules[one] = other; break;
                case SWAP: Ways.exchange(draft.slips, one, other); break;
                case FOUND: draft.addReport(one, other); break;
                case MISSED: draft.addReport(one, 0); break;
                case KNOWN: draft.known[one] = other; break;
                default: draft.addMove(one); break;
            }
        }

        private void toNextToken() {
            while (at < length && bytes[at] == ' ') {
                at++;
            }
            tokenStart = at;
            if (at >= length) {
                tokenKind = AT_END;
            } else if (isWithin(bytes[at], 'a', 'z')) {
                takeWord();
            } else if (isWithin(bytes[at], '0', '9')) {
                takeFigures();
            } else {
                tokenKind = bytes[at] == ';' ? ITEM_END : BROKEN;
                at++;
            }
        }

        private static boolean isWithin(byte sign, char low, char high) {
            return sign >= low && sign <= high;
        }

        private void takeWord() {
            tokenKind = WORD;
            while (at < length && isWithin(bytes[at], 'a', 'z')) {
                at++;
            }
        }

        private void takeFigures() {
            tokenNumber = 0;
            while (at < length && isWithin(bytes[at], '0', '9')) {
                // Kept short, or a long run of figures would wrap around.
                tokenNumber = Math.min(GREATEST_NUMBER, 10 * tokenNumber + bytes[at] - '0');
                at++;
            }
            tokenKind = at - tokenStart <= MOST_FIGURES ? NUMBER : BROKEN;
        }
    }
}
