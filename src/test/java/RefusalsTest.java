/**
 * Each refused call of each promise, for each number of BOXES, in rooms that are empty, full, and such as no WAY MAY
 * be: it answers as told, is one more in STATUS, and changes nothing else. And the calls just within their limits.
 */
public final class RefusalsTest {
    /** Where several numbers are not as told it is refused once. */
    private static final String[] BAD = {
        "boxes low", "boxes -1", "boxes 0", "boxes 1", "boxes 8", "boxes high",
        "put low 1", "put -1 1", "put 2 1", "put high 1", "put 2 low",
        "put 0 low", "put 0 -1", "put 0 0", "put 0 n+1", "put 0 8", "put 0 high",
        "put 1 low", "put 1 -1", "put 1 7", "put 1 high",
        "rule low 0", "rule -1 0", "rule n 0", "rule high 0",
        "rule 0 low", "rule 0 -1", "rule 0 6", "rule 0 high", "rule n 6",
        "swap low 0", "swap -1 0", "swap n 0", "swap high 0", "swap 0 low", "swap 0 -1", "swap 0 n", "swap 0 high",
        "swap 0 0", "swap n-1 n-1", "swap n n", "swap -1 -1",
        "lay low", "lay -1", "lay ways", "lay high",
        "know low 0", "know -1 0", "know n 0", "know high 0", "know 0 low", "know 0 -1", "know 0 n", "know 0 high",
        "know n n",
        "report low 0", "report -1 0", "report n 0", "report high 0",
        "report 0 low", "report 0 -1", "report 0 n+1", "report 0 high", "report n -1",
        "forget low", "forget -1", "forget 2", "forget high",
        "type low", "type -1", "type 128", "type 255", "type high",
        "slip low", "slip -1", "slip n", "slip high",
        "worked low", "worked -1", "worked 100", "worked high",
        "roots low", "roots -2", "roots 0", "roots 1", "roots 10", "roots high",
        "alike low", "alike -1", "alike ways", "alike high",
        "move low", "move -1", "move ways", "move high",
        "make low", "make -1", "make moves", "make 4", "make high",
        "chance low", "chance -1", "chance bits", "chance high",
        "worst low", "worst -1", "worst 2", "worst high",
        "third low", "third -1", "third 2", "third high",
        "laid low", "laid -1", "laid 1000000", "laid high",
        "lucky low 1", "lucky -1 1", "lucky 1000000 1", "lucky high 1", "lucky 1000000 0",
        "lucky 0 low", "lucky 0 -1", "lucky 0 61", "lucky 0 high", "lucky -1 61",
        "part low", "part -1", "part 2", "part high",
        "image low", "image -1", "image 2", "image high",
        "from low", "from -1", "from 2", "from high",
        "count low", "count -1", "count 8", "count high",
    };

    private static final String[] BAD_QUESTIONS = {
        "rings low", "rings -2", "rings n", "rings high",
        "opened low -1", "opened -1 -1", "opened n -1", "opened high -1",
        "opened low 0", "opened -1 0", "opened n 0", "opened high 0",
        "opened 0 low", "opened 0 -2", "opened -1 -2", "opened n high",
        "fewest low -1", "fewest -1 -1", "fewest ways -1", "fewest high -1",
        "fewest -1 0", "fewest ways 0", "fewest 0 low", "fewest 0 -2", "fewest ways -2",
        "till low", "till -2",
        "mayBe low", "mayBe -2",
    };

    private static final String[] OTHER_STATUS = {"status low", "status -1", "status 3", "status high"};

    /** What is no refusal: the numbers just within, in a room where all may be done. */
    private static final String[] TAKEN = {
        "boxes 2", "boxes 7", "put 0 1", "put 0 n", "put 1 0", "put 1 6",
        "rule 0 0", "rule 0 5", "rule n-1 0", "rule n-1 5", "swap 0 n-1", "swap n-1 0", "lay 0", "lay ways-1",
        "know 0 n-1", "know n-1 0", "know 0 0", "know n-1 n-1",
        "report 0 0", "report 0 n", "report n-1 0", "report n-1 n", "forget 0", "forget 1", "type 0", "type 127",
        "slip 0", "slip n-1", "rings -1", "rings 0", "rings n-1",
        "opened 0 -1", "opened n-1 -1", "opened 0 0", "opened n-1 high",
        "worked 0", "worked 99", "roots 2", "roots 9", "alike 0", "alike ways-1", "move 0", "move ways-1",
        "make 0", "make moves-1", "fewest 0 -1", "fewest ways-1 0", "fewest 0 high", "till -1", "till 0", "till high",
        "mayBe -1", "mayBe 0", "mayBe high", "chance 0", "chance bits-1", "worst 0", "worst 1", "third 0", "third 1",
        "laid 0", "laid 999999", "lucky 0 0", "lucky 0 60", "lucky 999999 0", "lucky 999999 60", "part 0", "part 1",
        "image 0", "image 1", "status 0", "status 1", "status 2", "count 0", "count 7",
        "undo", "clear", "read", "rank", "finds", "back", "undoes", "goesWith", "even", "drop", "group", "look",
        "advice", "mended", "digest",
    };

    public static void main(String[] args) {
        for (int n = 2; n <= 7; n++) {
            theFullRoomIsFull(n);
            refusedAsBad("an empty room of " + n, emptyRoom(n));
            refusedAsBad("a full room of " + n, fullRoom(n));
            refusedAsBad("no way of " + n, noWay(n));
            refusedAsNo(n);
            refusedAsFull(n);
            taken(n);
        }
        Check.end();
    }

    private static Twins.Making emptyRoom(int n) {
        return () -> {
            BoxRings x = new BoxRings();
            x.boxes(n);
            return x;
        };
    }

    /** All rows hold as much as they can; two IMAGES, THE FRACTION, a TEXT of 150 bytes and STATUS are not as at first. */
    private static Twins.Making fullRoom(int n) {
        return () -> {
            BoxRings x = new BoxRings();
            x.boxes(n);
            x.swap(0, 1);
            x.know(1, 1);
            x.move(1);
            x.image(0);
            x.forget(0);
            x.put(1, 6);
            x.chance(1);
            fill(x, n);
            x.image(1);
            x.make(1);
            x.rule(0, 0);
            x.undo();
            x.lay(1);
            x.from(5);
            x.report(0, 0);
            String items = "leave 4;turn 3;rule 1 2;swap 0 5;known 1 1;missed 0;move 5;";
            Check.typed(x, "boxes 6;" + " ".repeat(142 - items.length()) + items);
            return x;
        };
    }

    private static void theFullRoomIsFull(int n) {
        BoxRings x = fullRoom(n).made();
        int[] most = {n, n, 6, n, 8, 10, 150, 4};
        for (int what = 0; what < most.length; what++) {
            Check.due("a full room of " + n + ", count(" + what + ")", x.count(what), most[what]);
        }
        Check.due("a full room, the fraction is not as at first", x.part(0) == 0 ? 0 : 1, 1);
        Check.due("a full room, status(0)", x.status(0), 1);
        Check.due("a full room, status(2)", x.status(2), 1);
        Check.due("a full room, from(0)", x.from(0), 1);
        Check.due("a full room, from(1)", x.from(1), 1);
        Check.due("a full room, read()", x.read(), 8);
    }

    private static void fill(BoxRings x, int n) {
        int last = Twins.waysOf(n) - 1;
        x.put(0, n);
        for (int i = 0; i < 11; i++) {
            x.lay(i % 3 == 0 ? last : i * 7 % (last + 1));
        }
        for (int m = x.count(7); m < 4; m++) {
            x.move(Math.max(0, last - m));
        }
        for (int b = 0; b < n; b++) {
            x.rule(b, (b + 1) % 6);
            x.know(b, n - 1 - b);
        }
        for (int r = 0; r < 8; r++) {
            x.report(r % n, r % (n + 1));
        }
    }

    /** SEEKER 0 FINDS in BOX 0, and SLIP 1 is KNOWN to lie there. */
    private static Twins.Making noWay(int n) {
        return () -> {
            BoxRings x = new BoxRings();
            x.boxes(n);
            x.chance(1);
            x.know(0, 1);
            x.report(0, 1);
            x.move(1);
            x.swap(0, 1);
            Check.typed(x, "boxes 2;");
            return x;
        };
    }

    private static void refusedAsBad(String where, Twins.Making making) {
        for (String call : BAD) {
            Twins.changesNothing(where, making, call, BoxRings.BAD, Check.AS_BAD);
        }
        for (String call : BAD_QUESTIONS) {
            Twins.changesNothing(where, making, call, -10, Check.AS_BAD);
        }
        for (String call : OTHER_STATUS) {
            Twins.changesNothing(where, making, call, -1, Check.AS_BAD);
        }
    }

    private static void refusedAsNo(int n) {
        for (String call : new String[] {"undo", "drop", "from 0", "from 1"}) {
            Twins.changesNothing("an empty room of " + n, emptyRoom(n), call, BoxRings.NO, Check.AS_NO);
        }
        String[] ofKnown = {"know 0 n-1", "know n-1 0", "know 0 0", "know n-1 n-1"};
        for (String call : ofKnown) {
            Twins.changesNothing("a full room of " + n, fullRoom(n), call, BoxRings.NO, Check.AS_NO);
        }
        String[] ofNoWay = {"chance 0", "chance bits-1", "look", "advice", "worst 0", "worst 1", "know 0 0", "know n-1 1",
            "from 0", "from 1"};
        for (String call : ofNoWay) {
            Twins.changesNothing("no way of " + n, noWay(n), call, BoxRings.NO, Check.AS_NO);
        }
    }

    private static void refusedAsFull(int n) {
        String[] calls = {"report 0 0", "report n-1 n", "type 0", "type 127", "move 0", "move ways-1"};
        for (String call : calls) {
            Twins.changesNothing("a full room of " + n, fullRoom(n), call, BoxRings.FULL, Check.AS_FULL);
        }
    }

    private static void taken(int n) {
        for (String call : TAKEN) {
            BoxRings x = emptyRoom(n).made();
            x.lay(1);
            x.move(1);
            Check.typed(x, "boxes 3;");
            long answer = Twins.answer(x, call);
            for (int s = 0; s < 3; s++) {
                Check.due(call + " of " + n + " answers " + answer + ", status(" + s + ") behind it", x.status(s), 0);
            }
        }
    }
}
