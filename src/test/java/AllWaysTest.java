/** All WAYS of few BOXES, and some of many, by all RULES, TURNS and LEAVES: each answer held against the model's. */
public final class AllWaysTest {
    private static final int[] SOME_OF_SIX = {0, 1, 119, 120, 289, 344, 433, 575, 601, 719};
    private static final int[] SOME_OF_SEVEN = {0, 1, 719, 720, 873, 1957, 2600, 3333, 4321, 5039};

    private final BoxRings real = new BoxRings();
    private final Model model = new Model();

    public static void main(String[] args) {
        for (int n = 2; n <= 7; n++) {
            for (int rank : ranksOf(n)) {
                opened(n, rank);
                asItLies(n, rank);
            }
            allRanks(n);
            seeds(n);
        }
        Check.end();
    }

    private static int[] ranksOf(int n) {
        if (n >= 6) {
            return n == 6 ? SOME_OF_SIX : SOME_OF_SEVEN;
        }
        int[] ranks = new int[Twins.waysOf(n)];
        for (int i = 0; i < ranks.length; i++) {
            ranks[i] = i;
        }
        return ranks;
    }

    private static AllWaysTest of(int n, int rank) {
        AllWaysTest both = new AllWaysTest();
        both.real.boxes(n);
        both.model.boxes(n);
        both.real.lay(rank);
        both.model.lay(rank);
        return both;
    }

    private static void opened(int n, int rank) {
        for (int leave = 1; leave <= n; leave++) {
            for (int turn = 0; turn <= 6; turn++) {
                for (int rule = 0; rule < 6; rule++) {
                    AllWaysTest both = of(n, rank);
                    both.keep(leave, turn, rule, n);
                    both.seekersOpen(n + " boxes, rank " + rank + ", leave " + leave + ", turn " + turn + ", rule " + rule, n);
                }
            }
        }
    }

    private void keep(int leave, int turn, int rule, int n) {
        real.put(0, leave);
        real.put(1, turn);
        model.put(0, leave);
        model.put(1, turn);
        for (int s = 0; s < n; s++) {
            real.rule(s, rule);
            model.rule(s, rule);
        }
    }

    private void seekersOpen(String where, int n) {
        for (int s = 0; s < n; s++) {
            for (int i = -1; i <= n; i++) {
                Check.due(where + ", opened(" + s + ", " + i + ")", real.opened(s, i), model.opened(s, i));
            }
        }
        Check.due(where + ", finds()", real.finds(), model.finds());
    }

    private static void asItLies(int n, int rank) {
        AllWaysTest both = of(n, rank);
        BoxRings x = both.real;
        Model y = both.model;
        String where = n + " boxes, rank " + rank + ": ";
        for (int b = -1; b < n; b++) {
            Check.due(where + "rings(" + b + ")", x.rings(b), y.rings(b));
        }
        for (int m = 0; m <= 99; m += m < 14 ? 1 : 17) {
            Check.due(where + "worked(" + m + ")", x.worked(m), y.worked(m));
        }
        for (int m = 2; m <= 9; m++) {
            Check.due(where + "roots(" + m + ")", x.roots(m), y.roots(m));
        }
        for (int other : ranksOf(n)) {
            Check.due(where + "alike(" + other + ")", x.alike(other), y.alike(other));
        }
        Check.due(where + "back()", x.back(), y.back());
        Check.due(where + "undoes()", x.undoes(), y.undoes());
        Check.due(where + "goesWith()", x.goesWith(), y.goesWith());
        Check.due(where + "even()", x.even(), y.even());
    }

    /** Rising by BOX 0's SLIP, then BOX 1's, ..: told as a number of n figures. */
    private static void allRanks(int n) {
        int ahead = -1;
        for (int rank = 0; rank < Twins.waysOf(n); rank++) {
            BoxRings x = new BoxRings();
            x.boxes(n);
            Check.due("lay(" + rank + ")", x.lay(rank), 0);
            Check.due("its rank()", x.rank(), rank);
            int slips = 0;
            for (int b = 0; b < n; b++) {
                slips = 10 * slips + x.slip(b);
            }
            Check.due("rank " + rank + " of " + n + " is behind the one ahead", slips > ahead ? 1 : 0, 1);
            ahead = slips;
        }
    }

    private static void seeds(int n) {
        for (int seed = 0; seed < 1000000; seed += 3003) {
            AllWaysTest both = of(n, 1);
            Check.due(n + " boxes, laid(" + seed + ")", both.real.laid(seed), both.model.laid(seed));
            Check.due(n + " boxes, lucky(" + seed + ", 9)", both.real.lucky(seed, 9), both.model.lucky(seed, 9));
        }
    }
}
