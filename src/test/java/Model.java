import java.math.BigInteger;
import java.util.ArrayDeque;
import java.util.ArrayList;
import java.util.HashMap;
import java.util.LinkedHashMap;
import java.util.List;
import java.util.Map;
import java.util.TreeMap;
import java.util.regex.Matcher;
import java.util.regex.Pattern;

/**
 * What the document says, once more and by other means, for random runs to be held against: each WAY is a
 * list, its RANK its place in the list of all; rows of MOVES are found backward from where they lead.
 */
final class Model {
    private static final int NONE = -1, BAD = -2, NO = -3, FULL = -4, NOT_SO_MANY = -5, BAD_QUESTION = -10;

    private static final Map<Integer, List<List<Integer>>> ALL = new HashMap<>();
    private static final Map<Integer, Map<List<Integer>, Integer>> PLACES = new HashMap<>();

    private static final class State {
        int n = 5;
        int leave = 2;
        int turn = 1;
        List<Integer> way = all(5).get(0);
        TreeMap<Integer, Integer> known = new TreeMap<>();
        TreeMap<Integer, Integer> rules = new TreeMap<>();
        List<List<Integer>> reports = new ArrayList<>();
        List<Integer> moves = new ArrayList<>();
        ArrayDeque<List<Integer>> past = new ArrayDeque<>();

        static State ofBoxes(int n) {
            State state = new State();
            state.n = n;
            state.way = all(n).get(0);
            return state;
        }

        State copy() {
            State state = ofBoxes(n);
            state.leave = leave;
            state.turn = turn;
            state.way = way;
            state.known.putAll(known);
            state.rules.putAll(rules);
            state.reports.addAll(reports);
            state.moves.addAll(moves);
            state.past.addAll(past);
            return state;
        }
    }

    private State now = new State();
    private final State[] images = new State[2];
    private final StringBuilder text = new StringBuilder();
    private BigInteger above = BigInteger.ZERO;
    private BigInteger below = BigInteger.ONE;
    private final int[] refused = new int[3];

    private int refuse(int answer) {
        refused[answer == NO ? 1 : answer == FULL ? 2 : 0]++;
        return answer;
    }

    private static List<List<Integer>> all(int n) {
        if (!ALL.containsKey(n)) {
            List<List<Integer>> ways = new ArrayList<>();
            extend(new ArrayList<>(), n, ways);
            ALL.put(n, ways);
            Map<List<Integer>, Integer> places = new HashMap<>();
            for (List<Integer> way : ways) {
                places.put(way, places.size());
            }
            PLACES.put(n, places);
        }
        return ALL.get(n);
    }

    private static void extend(List<Integer> begun, int n, List<List<Integer>> ways) {
        if (begun.size() == n) {
            ways.add(List.copyOf(begun));
            return;
        }
        for (int slip = 0; slip < n; slip++) {
            if (!begun.contains(slip)) {
                begun.add(slip);
                extend(begun, n, ways);
                begun.remove(begun.size() - 1);
            }
        }
    }

    private static int rankOf(List<Integer> way) {
        all(way.size());
        return PLACES.get(way.size()).get(way);
    }

    private boolean isIn(int v, int least, int behind) {
        return v >= least && v < behind;
    }

    private boolean isBox(int v) {
        return isIn(v, 0, now.n);
    }

    private boolean isRank(int v) {
        return isIn(v, 0, all(now.n).size());
    }

    private void go(List<Integer> way) {
        now.past.addLast(now.way);
        if (now.past.size() > 10) {
            now.past.removeFirst();
        }
        now.way = way;
    }

    private static List<Integer> swapped(List<Integer> way, int a, int b) {
        List<Integer> other = new ArrayList<>(way);
        other.set(a, way.get(b));
        other.set(b, way.get(a));
        return other;
    }

    private static List<Integer> after(List<Integer> first, List<Integer> second) {
        List<Integer> both = new ArrayList<>();
        for (int box : first) {
            both.add(second.get(box));
        }
        return both;
    }

    private static List<Integer> power(List<Integer> way, int m) {
        List<Integer> power = all(way.size()).get(0);
        for (int i = 0; i < m; i++) {
            power = after(power, way);
        }
        return power;
    }

    private static List<Integer> inverse(List<Integer> way) {
        List<Integer> inverse = new ArrayList<>();
        for (int slip = 0; slip < way.size(); slip++) {
            inverse.add(way.indexOf(slip));
        }
        return inverse;
    }

    private static List<Integer> ringOf(List<Integer> way, int box) {
        List<Integer> ring = new ArrayList<>();
        for (int at = box; !ring.contains(at); at = way.get(at)) {
            ring.add(at);
        }
        return ring;
    }

    private static TreeMap<Integer, Integer> lengths(List<Integer> way) {
        TreeMap<Integer, Integer> lengths = new TreeMap<>();
        for (int box = 0; box < way.size(); box++) {
            List<Integer> ring = ringOf(way, box);
            if (ring.stream().noneMatch(b -> b < ring.get(0))) {
                lengths.merge(ring.size(), 1, Integer::sum);
            }
        }
        return lengths;
    }

    private int ruleOf(int seeker) {
        return now.rules.getOrDefault(seeker, 0);
    }

    private List<Integer> openedIn(List<Integer> way, int seeker, int rule) {
        List<Integer> opened = new ArrayList<>();
        int last = NONE;
        while (opened.size() < Math.min(now.leave, now.n) && (last == NONE || way.get(last) != seeker)) {
            List<Integer> order = wishes(last, last == NONE ? seeker : way.get(last), rule);
            order.removeAll(opened);
            last = order.get(0);
            opened.add(last);
        }
        return opened;
    }

    /** All BOXES, as one would like to open them next. */
    private List<Integer> wishes(int last, int number, int rule) {
        int begin = rule == 0 ? number : rule == 4 ? number + now.turn : 0;
        if (rule == 5 && last != NONE) {
            begin = last + (now.turn == 0 ? 1 : now.turn);
        }
        List<Integer> order = new ArrayList<>();
        for (int i = 0; i < now.n; i++) {
            int box = (begin + i) % now.n;
            order.add(rule == 2 ? 0 : order.size(), box);
        }
        if (rule == 3) {
            List<Integer> odd = new ArrayList<>(order);
            odd.removeIf(b -> b % 2 == 0);
            order.removeAll(odd);
            order.addAll(odd);
        }
        return order;
    }

    private boolean doesFind(List<Integer> way, int seeker, int rule) {
        List<Integer> opened = openedIn(way, seeker, rule);
        return opened.contains(way.indexOf(seeker));
    }

    private List<Integer> findersIn(List<Integer> way) {
        List<Integer> finders = new ArrayList<>();
        for (int s = 0; s < now.n; s++) {
            if (doesFind(way, s, ruleOf(s))) {
                finders.add(s);
            }
        }
        return finders;
    }

    private boolean doAllFind(List<Integer> way) {
        return findersIn(way).size() == now.n;
    }

    private List<List<Integer>> waysThatMayBe() {
        List<List<Integer>> ways = new ArrayList<>();
        for (List<Integer> way : all(now.n)) {
            boolean fits = now.known.entrySet().stream().allMatch(e -> way.get(e.getKey()).equals(e.getValue()));
            fits = fits && now.reports.stream().allMatch(r -> isSo(way, r.get(0), r.get(1)));
            if (fits) {
                ways.add(way);
            }
        }
        return ways;
    }

    private boolean isSo(List<Integer> way, int seeker, int j) {
        boolean finds = doesFind(way, seeker, ruleOf(seeker));
        return j == 0 ? !finds : finds && openedIn(way, seeker, ruleOf(seeker)).size() == j;
    }

    private void setFraction(long over, long under) {
        BigInteger divisor = BigInteger.valueOf(over).gcd(BigInteger.valueOf(under));
        above = BigInteger.valueOf(over).divide(divisor);
        below = BigInteger.valueOf(under).divide(divisor);
    }

    // ---- the calls

    int boxes(int n) {
        if (!isIn(n, 2, 8)) {
            return refuse(BAD);
        }
        int was = now.n;
        now = State.ofBoxes(n);
        return was;
    }

    int put(int what, int v) {
        if (what == 0 && isIn(v, 1, now.n + 1)) {
            int was = now.leave;
            now.leave = v;
            return was;
        }
        if (what == 1 && isIn(v, 0, 7)) {
            int was = now.turn;
            now.turn = v;
            return was;
        }
        return refuse(BAD);
    }

    int rule(int seeker, int rule) {
        if (!isBox(seeker) || !isIn(rule, 0, 6)) {
            return refuse(BAD);
        }
        int was = ruleOf(seeker);
        now.rules.put(seeker, rule);
        return was;
    }

    int swap(int a, int b) {
        if (!isBox(a) || !isBox(b) || a == b) {
            return refuse(BAD);
        }
        go(swapped(now.way, a, b));
        return 1;
    }

    int lay(int rank) {
        if (!isRank(rank)) {
            return refuse(BAD);
        }
        int was = rank();
        go(all(now.n).get(rank));
        return was;
    }

    int undo() {
        if (now.past.isEmpty()) {
            return refuse(NO);
        }
        now.way = now.past.removeLast();
        return 1;
    }

    int know(int box, int slip) {
        if (!isBox(box) || !isBox(slip)) {
            return refuse(BAD);
        }
        if (now.known.containsKey(box) || now.known.containsValue(slip)) {
            return refuse(NO);
        }
        now.known.put(box, slip);
        return 1;
    }

    int report(int seeker, int j) {
        if (!isBox(seeker) || !isIn(j, 0, now.n + 1)) {
            return refuse(BAD);
        }
        if (now.reports.size() == 8) {
            return refuse(FULL);
        }
        now.reports.add(List.of(seeker, j));
        return now.reports.size() - 1;
    }

    int forget(int what) {
        if (!isIn(what, 0, 2)) {
            return refuse(BAD);
        }
        int were = what == 0 ? now.known.size() : now.reports.size();
        if (what == 0) {
            now.known.clear();
        } else {
            now.reports.clear();
        }
        return were;
    }

    int type(int c) {
        if (!isIn(c, 0, 128)) {
            return refuse(BAD);
        }
        if (text.length() == 150) {
            return refuse(FULL);
        }
        text.append((char) c);
        return text.length();
    }

    int clear() {
        int had = text.length();
        text.setLength(0);
        return had;
    }

    int read() {
        Reading reading = new Reading(text.toString());
        try {
            int items = reading.items();
            now = reading.told;
            return items;
        } catch (Fault fault) {
            return -10 - fault.at;
        }
    }

    int slip(int box) {
        return isBox(box) ? now.way.get(box) : refuse(BAD);
    }

    int rank() {
        return rankOf(now.way);
    }

    int rings(int box) {
        if (box == NONE) {
            return lengths(now.way).values().stream().mapToInt(i -> i).sum();
        }
        return isBox(box) ? ringOf(now.way, box).size() : refuse(BAD_QUESTION);
    }

    private int ofRow(List<Integer> row, int i) {
        return i == NONE ? row.size() : i < row.size() ? row.get(i) : NOT_SO_MANY;
    }

    int opened(int seeker, int i) {
        if (!isBox(seeker) || i < NONE) {
            return refuse(BAD_QUESTION);
        }
        return ofRow(openedIn(now.way, seeker, ruleOf(seeker)), i);
    }

    int finds() {
        return findersIn(now.way).stream().mapToInt(s -> 1 << s).sum();
    }

    int worked(int m) {
        return isIn(m, 0, 100) ? rankOf(power(now.way, m)) : refuse(BAD);
    }

    int back() {
        int m = 1;
        while (rankOf(power(now.way, m)) != 0) {
            m++;
        }
        return m;
    }

    int undoes() {
        return rankOf(inverse(now.way));
    }

    int goesWith() {
        return (int) all(now.n).stream().filter(w -> after(w, now.way).equals(after(now.way, w))).count();
    }

    int roots(int m) {
        if (!isIn(m, 2, 10)) {
            return refuse(BAD);
        }
        return (int) all(now.n).stream().filter(w -> power(w, m).equals(now.way)).count();
    }

    int alike(int rank) {
        if (!isRank(rank)) {
            return refuse(BAD);
        }
        return lengths(all(now.n).get(rank)).equals(lengths(now.way)) ? 1 : 0;
    }

    int even() {
        int turnedPairs = 0;
        for (int a = 0; a < now.n; a++) {
            for (int b = a + 1; b < now.n; b++) {
                turnedPairs += now.way.get(a) > now.way.get(b) ? 1 : 0;
            }
        }
        return 1 - turnedPairs % 2;
    }

    int move(int rank) {
        if (!isRank(rank)) {
            return refuse(BAD);
        }
        if (now.moves.size() == 4) {
            return refuse(FULL);
        }
        now.moves.add(rank);
        return now.moves.size() - 1;
    }

    int drop() {
        if (now.moves.isEmpty()) {
            return refuse(NO);
        }
        now.moves.remove(now.moves.size() - 1);
        return now.moves.size();
    }

    private List<Integer> madeFrom(List<Integer> way, int move) {
        return after(inverse(all(now.n).get(now.moves.get(move))), way);
    }

    int make(int move) {
        if (!isIn(move, 0, now.moves.size())) {
            return refuse(BAD);
        }
        go(madeFrom(now.way, move));
        return rank();
    }

    int group() {
        List<List<Integer>> come = new ArrayList<>(List.of(now.way));
        Map<List<Integer>, Boolean> seen = new HashMap<>(Map.of(now.way, true));
        for (int i = 0; i < come.size(); i++) {
            for (int m = 0; m < now.moves.size(); m++) {
                List<Integer> next = madeFrom(come.get(i), m);
                if (seen.put(next, true) == null) {
                    come.add(next);
                }
            }
        }
        return come.size();
    }

    /** From how far off each WAY can be led to one of the goals. */
    private Map<List<Integer>, Integer> distances(List<List<Integer>> goals) {
        Map<List<Integer>, Integer> far = new LinkedHashMap<>();
        ArrayDeque<List<Integer>> row = new ArrayDeque<>(goals);
        goals.forEach(goal -> far.put(goal, 0));
        while (!row.isEmpty()) {
            List<Integer> way = row.removeFirst();
            for (int move : now.moves) {
                List<Integer> ahead = after(all(now.n).get(move), way);
                if (!far.containsKey(ahead)) {
                    far.put(ahead, far.get(way) + 1);
                    row.addLast(ahead);
                }
            }
        }
        return far;
    }

    private int led(List<List<Integer>> goals, int i) {
        Map<List<Integer>, Integer> far = distances(goals);
        if (!far.containsKey(now.way)) {
            return NONE;
        }
        List<Integer> moves = new ArrayList<>();
        for (List<Integer> way = now.way; far.get(way) > 0; way = madeFrom(way, moves.get(moves.size() - 1))) {
            int m = 0;
            while (far.getOrDefault(madeFrom(way, m), 9999) >= far.get(way)) {
                m++;
            }
            moves.add(m);
        }
        return ofRow(moves, i);
    }

    int fewest(int rank, int i) {
        if (!isRank(rank) || i < NONE) {
            return refuse(BAD_QUESTION);
        }
        return led(List.of(all(now.n).get(rank)), i);
    }

    int till(int i) {
        if (i < NONE) {
            return refuse(BAD_QUESTION);
        }
        List<List<Integer>> goals = new ArrayList<>(all(now.n));
        goals.removeIf(way -> !doAllFind(way));
        return led(goals, i);
    }

    int mayBe(int i) {
        if (i < NONE) {
            return refuse(BAD_QUESTION);
        }
        List<Integer> ranks = new ArrayList<>();
        waysThatMayBe().forEach(way -> ranks.add(rankOf(way)));
        return ofRow(ranks, i);
    }

    int chance(int seekers) {
        if (!isIn(seekers, 0, 1 << now.n)) {
            return refuse(BAD);
        }
        List<List<Integer>> ways = waysThatMayBe();
        if (ways.isEmpty()) {
            return refuse(NO);
        }
        long lucky = ways.stream().filter(way ->
            (findersIn(way).stream().mapToInt(s -> 1 << s).sum() & seekers) == seekers).count();
        setFraction(lucky, ways.size());
        return 1;
    }

    int look() {
        List<List<Integer>> ways = waysThatMayBe();
        if (ways.isEmpty()) {
            return refuse(NO);
        }
        int best = NONE;
        long least = Long.MAX_VALUE;
        for (int box = 0; box < now.n; box++) {
            long sum = 0;
            for (int slip = 0; slip < now.n; slip++) {
                int at = box;
                int there = slip;
                long many = ways.stream().filter(way -> way.get(at) == there).count();
                sum += many * many;
            }
            if (!now.known.containsKey(box) && sum < least) {
                best = box;
                least = sum;
            }
        }
        if (best != NONE) {
            setFraction(least, ways.size());
        }
        return best;
    }

    int advice() {
        List<List<Integer>> ways = waysThatMayBe();
        if (ways.isEmpty()) {
            return refuse(NO);
        }
        State kept = now;
        int best = NONE;
        long most = -1;
        for (int rule = 0; rule < 6; rule++) {
            now = kept.copy();
            for (int s = 0; s < now.n; s++) {
                now.rules.put(s, rule);
            }
            long lucky = ways.stream().filter(this::doAllFind).count();
            if (lucky > most) {
                best = rule;
                most = lucky;
            }
        }
        now = kept;
        setFraction(most, ways.size());
        return best;
    }

    int worst(int what) {
        if (!isIn(what, 0, 2)) {
            return refuse(BAD);
        }
        List<List<Integer>> ways = waysThatMayBe();
        if (ways.isEmpty()) {
            return refuse(NO);
        }
        TreeMap<Integer, Integer> firstByFinders = new TreeMap<>();
        ways.forEach(way -> firstByFinders.putIfAbsent(findersIn(way).size(), rankOf(way)));
        return what == 0 ? firstByFinders.firstEntry().getValue() : firstByFinders.firstKey();
    }

    int mended() {
        Map<List<Integer>, Integer> far = new LinkedHashMap<>(Map.of(now.way, 0));
        ArrayDeque<List<Integer>> row = new ArrayDeque<>(List.of(now.way));
        while (!row.isEmpty()) {
            List<Integer> way = row.removeFirst();
            if (doAllFind(way)) {
                return far.get(way);
            }
            for (int a = 0; a < now.n; a++) {
                for (int b = a + 1; b < now.n; b++) {
                    List<Integer> next = swapped(way, a, b);
                    if (!far.containsKey(next)) {
                        far.put(next, far.get(way) + 1);
                        row.addLast(next);
                    }
                }
            }
        }
        return NONE;
    }

    int third(int what) {
        if (!isIn(what, 0, 2)) {
            return refuse(BAD);
        }
        int pair = NONE;
        int best = findersIn(now.way).size();
        for (int both = 1; both < 100; both++) {
            int a = both / 10;
            int b = both % 10;
            if (a < b && isBox(a) && isBox(b)) {
                int find = findersIn(swapped(now.way, a, b)).size();
                if (what == 0 ? find > best : find < best) {
                    pair = both;
                    best = find;
                }
            }
        }
        return pair;
    }

    private List<Integer> laidBy(int seed) {
        BigInteger x = BigInteger.valueOf(seed);
        List<Integer> way = all(now.n).get(0);
        for (int b = now.n - 1; b > 0; b--) {
            x = x.multiply(BigInteger.valueOf(1103515245)).add(BigInteger.valueOf(12345)).mod(BigInteger.TWO.pow(31));
            way = swapped(way, b, x.shiftRight(16).mod(BigInteger.valueOf(b + 1)).intValue());
        }
        return way;
    }

    int laid(int seed) {
        return isIn(seed, 0, 1000000) ? rankOf(laidBy(seed)) : refuse(BAD);
    }

    int lucky(int seed, int y) {
        if (!isIn(seed, 0, 1000000) || !isIn(y, 0, 61)) {
            return refuse(BAD);
        }
        int lucky = 0;
        for (int s = seed; s < seed + y; s++) {
            lucky += doAllFind(laidBy(s)) ? 1 : 0;
        }
        return lucky;
    }

    long part(int what) {
        return isIn(what, 0, 2) ? (what == 0 ? above : below).longValue() : refuse(BAD);
    }

    int image(int i) {
        if (!isIn(i, 0, 2)) {
            return refuse(BAD);
        }
        images[i] = now.copy();
        return 1;
    }

    int from(int i) {
        if (!isIn(i, 0, 2)) {
            return refuse(BAD);
        }
        if (images[i] == null) {
            return refuse(NO);
        }
        now = images[i].copy();
        return 1;
    }

    int status(int what) {
        if (!isIn(what, 0, 3)) {
            refuse(BAD);
            return -1;
        }
        return refused[what];
    }

    private List<Integer> counts() {
        return List.of(now.n, now.leave, now.turn, now.known.size(), now.reports.size(), now.past.size(),
            text.length(), now.moves.size());
    }

    int count(int what) {
        return isIn(what, 0, 8) ? counts().get(what) : refuse(BAD);
    }

    long digest() {
        List<Long> values = new ArrayList<>();
        counts().forEach(v -> values.add((long) v));
        for (int b = 0; b < now.n; b++) {
            values.add((long) now.way.get(b));
            values.add((long) now.known.getOrDefault(b, NONE));
        }
        for (int s = 0; s < now.n; s++) {
            values.add((long) ruleOf(s));
        }
        now.reports.forEach(r -> r.forEach(v -> values.add((long) v)));
        now.moves.forEach(v -> values.add((long) v));
        values.add(above.longValue());
        values.add(below.longValue());
        long h = 823;
        for (long v : values) {
            h = 31 * h + v;
        }
        return h;
    }

    // ---- THE TEXT

    private static final class Fault extends RuntimeException {
        private static final long serialVersionUID = 1L;
        final int at;

        Fault(int at) {
            this.at = at;
        }
    }

    /** By a pattern for a whole ITEM's tokens, and what its numbers must be told in one row each. */
    private static final class Reading {
        private static final Pattern TOKEN = Pattern.compile(" *([a-z]+|[0-9]+|;|$|.)", Pattern.DOTALL);
        final Matcher tokens;
        State told = new State();

        Reading(String text) {
            tokens = TOKEN.matcher(text);
        }

        private String token() {
            return tokens.find() ? tokens.group(1) : "";
        }

        private void must(boolean holds) {
            if (!holds) {
                throw new Fault(tokens.start(1));
            }
        }

        private int number(int least, int behind) {
            String figures = token();
            must(figures.matches("[0-9]{1,4}"));
            int v = Integer.parseInt(figures);
            must(v >= least && v < behind);
            return v;
        }

        int items() {
            must(token().equals("boxes"));
            told = State.ofBoxes(number(2, 8));
            must(token().equals(";"));
            int items = 1;
            for (String word = token(); !word.isEmpty(); word = token()) {
                item(word);
                must(token().equals(";"));
                items++;
            }
            return items;
        }

        private void item(String word) {
            int n = told.n;
            switch (word) {
                case "leave" -> told.leave = Math.min(n, number(1, 10000));
                case "turn" -> told.turn = number(0, 7);
                case "rule" -> told.rules.put(number(0, n), number(0, 6));
                case "swap" -> {
                    int a = number(0, n);
                    int b = number(0, n);
                    must(a != b);
                    told.way = swapped(told.way, a, b);
                }
                case "found" -> {
                    must(told.reports.size() < 8);
                    told.reports.add(List.of(number(0, n), number(1, n + 1)));
                }
                case "missed" -> {
                    must(told.reports.size() < 8);
                    told.reports.add(List.of(number(0, n), 0));
                }
                case "known" -> {
                    int box = number(0, n);
                    must(!told.known.containsKey(box));
                    int slip = number(0, n);
                    must(!told.known.containsValue(slip));
                    told.known.put(box, slip);
                }
                case "move" -> {
                    must(told.moves.size() < 4);
                    told.moves.add(number(0, all(n).size()));
                }
                default -> must(false);
            }
        }
    }
}
