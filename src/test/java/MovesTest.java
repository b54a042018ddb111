/** Promises 26 to 31: moves. */
public final class MovesTest {
    public static void main(String[] args) {
        p26Move();
        p27Drop();
        p28Make();
        p29Group();
        p30Fewest();
        p30OfFourMoves();
        p30OfLikeOnesTheFirstRow();
        p31Till();
        Check.end();
    }

    /** The ring 0 1 2 3 of four BOXES: SLIP of BOX b goes to BOX b + 1. Its RANK: 1 2 3 0. */
    private static final int ROUND = 6 + 2 + 1;

    private static void leads(String what, BoxRings x, Check.Call length, Check.Call beyond, int many) {
        Check.tells(what + ", how many", x, length, many);
        Check.tells(what + ", no more", x, beyond, many < 0 ? -1 : -5);
    }

    private static void p26Move() {
        BoxRings x = new BoxRings();
        Check.bad("26 rank 120", x, r -> r.move(120));
        Check.bad("26 rank -1", x, r -> r.move(-1));
        for (int m = 0; m < 4; m++) {
            Check.due("26 move", x.move(m * 30), m);
        }
        Check.full("26 a fifth", x, r -> r.move(0));
        Check.bad("26 BAD is ahead of FULL", x, r -> r.move(120));
        Check.due("26 how many", x.count(7), 4);
        Check.due("26 the way stays", x.rank(), 0);
    }

    private static void p27Drop() {
        BoxRings x = Check.room("boxes 4;move 1;move 2;");
        Check.due("27 drop", x.drop(), 1);
        Check.due("27 the first stays", x.make(0), 1);
        Check.due("27 drop", x.drop(), 0);
        Check.no("27 none", x, r -> r.drop());
        Check.due("27 a new one is the first", x.move(3), 0);
    }

    private static void p28Make() {
        BoxRings x = new BoxRings();
        Check.bad("28 no move", x, r -> r.make(0));
        x.boxes(4);
        x.move(ROUND);
        // The SLIP of BOX 0 goes to BOX 1, ..: 3 0 1 2.
        Check.due("28 make", x.make(0), 18);
        Check.due("28 slip(1)", x.slip(1), 0);
        x.lay(1);
        // 0 1 3 2 becomes 2 0 1 3.
        Check.due("28 make", x.make(0), 12);
        Check.due("28 may be undone", x.undo(), 1);
        Check.due("28 undone", x.rank(), 1);
        Check.bad("28 move 1", x, r -> r.make(1));
        Check.bad("28 move -1", x, r -> r.make(-1));
    }

    private static void p29Group() {
        BoxRings x = new BoxRings();
        Check.tells("29 no moves", x, r -> r.group(), 1);
        x.boxes(4);
        x.move(ROUND);
        Check.tells("29 round", x, r -> r.group(), 4);
        x.lay(17);
        Check.tells("29 round, from elsewhere", x, r -> r.group(), 4);
        x.move(1);
        Check.tells("29 all", x, r -> r.group(), 24);
        x.drop();
        x.drop();
        x.move(1);
        Check.tells("29 a swap", x, r -> r.group(), 2);
        x.drop();
        x.move(0);
        Check.tells("29 nothing moves", x, r -> r.group(), 1);
        // SLIP of BOX b to BOX b + 1 of seven, and a swap of two: all 5040.
        x = Check.room("boxes 7;move 873;move 1;");
        Check.tells("29 all of seven", x, r -> r.group(), 5040);
        x.boxes(2);
        Check.tells("29 of two, no moves", x, r -> r.group(), 1);
        x.move(1);
        Check.tells("29 of two", x, r -> r.group(), 2);
    }

    private static void p30Fewest() {
        BoxRings x = Check.room("boxes 4;move 9;");
        leads("30 here", x, r -> r.fewest(0, -1), r -> r.fewest(0, 0), 0);
        leads("30 one move", x, r -> r.fewest(18, -1), r -> r.fewest(18, 1), 1);
        Check.tells("30 the move", x, r -> r.fewest(18, 0), 0);
        // Thrice round is once back: 1 2 3 0.
        leads("30 three moves", x, r -> r.fewest(ROUND, -1), r -> r.fewest(ROUND, 3), 3);
        Check.tells("30 not come to", x, r -> r.fewest(1, -1), -1);
        Check.tells("30 not come to, i", x, r -> r.fewest(1, 0), -1);
        x.move(1);
        Check.tells("30 come to now", x, r -> r.fewest(1, -1), 1);
        Check.tells("30 by the other", x, r -> r.fewest(1, 0), 1);
        x.lay(18);
        Check.tells("30 from elsewhere", x, r -> r.fewest(18, -1), 0);
        x.drop();
        Check.tells("30 not by the first alone", x, r -> r.fewest(1, -1), -1);
        Check.badQuestion("30 rank 24", x, r -> r.fewest(24, 0));
        Check.badQuestion("30 rank -1", x, r -> r.fewest(-1, -1));
        Check.badQuestion("30 i -2", x, r -> r.fewest(0, -2));
        Check.tells("30 no moves", new BoxRings(), r -> r.fewest(119, -1), -1);
    }

    private static void p30OfFourMoves() {
        // Swaps of neighbours; the fourth is that of BOXES 0 and 1.
        BoxRings x = Check.room("boxes 5;move 1;move 2;move 6;move 24;");
        Check.tells("30 the fourth", x, r -> r.fewest(24, 0), 3);
        Check.tells("30 the last way turns ten pairs", x, r -> r.fewest(119, -1), 10);
        Check.tells("30 all five", x, r -> r.group(), 120);
        x.drop();
        x.move(0);
        Check.tells("30 nothing moves by the fourth", x, r -> r.fewest(24, -1), -1);
        x.drop();
        Check.tells("30 without the fourth", x, r -> r.fewest(24, -1), -1);
        x.move(119);
        Check.tells("30 another fourth", x, r -> r.fewest(119, 0), 3);
        x.drop();
        x.drop();
        x.move(119);
        Check.tells("30 another third", x, r -> r.fewest(119, 0), 2);
    }

    private static void p30OfLikeOnesTheFirstRow() {
        // Swaps of BOXES 2 3 and of 0 1 (0 1 3 2 and 1 0 2 3): both orders lead to 1 0 3 2.
        BoxRings x = Check.room("boxes 4;move 6;move 1;");
        Check.tells("30 both", x, r -> r.fewest(7, -1), 2);
        Check.tells("30 lesser first", x, r -> r.fewest(7, 0), 0);
        Check.tells("30 then the other", x, r -> r.fewest(7, 1), 1);
        // The same MOVE twice: the lesser of them.
        x = Check.room("boxes 4;move 0;move 1;move 1;");
        Check.tells("30 of the same the lesser", x, r -> r.fewest(1, 0), 1);
        x.drop();
        x.drop();
        x.move(7);
        x.move(1);
        // To 1 0 2 3: by 1, then 2, or by 2, then 1.
        Check.tells("30 two moves", x, r -> r.fewest(6, -1), 2);
        Check.tells("30 the first", x, r -> r.fewest(6, 0), 1);
        Check.tells("30 the second", x, r -> r.fewest(6, 1), 2);
    }

    private static void p31Till() {
        BoxRings x = new BoxRings();
        leads("31 at first all find", x, r -> r.till(-1), r -> r.till(0), 0);
        x.lay(37);
        leads("31 no moves", x, r -> r.till(-1), r -> r.till(0), -1);
        // Four BOXES in one ring, LEAVE 2: the swap of 0 1 makes no rings of two, nor does that of 2 3.
        x = Check.room("boxes 4;swap 0 1;swap 1 2;swap 2 3;move 6;");
        Check.due("31 one ring", x.rank(), ROUND);
        leads("31 never", x, r -> r.till(-1), r -> r.till(7), -1);
        x.move(1);
        // 1 2 3 0: the swap of 2 3, then that of 0 1: 2 1 0 3, rings of 2, 1, 1. The other order makes the same.
        leads("31 two moves", x, r -> r.till(-1), r -> r.till(2), 2);
        Check.tells("31 lesser first", x, r -> r.till(0), 0);
        Check.tells("31 then the other", x, r -> r.till(1), 1);
        x.put(0, 4);
        leads("31 leave 4", x, r -> r.till(-1), r -> r.till(0), 0);
        x.put(0, 1);
        leads("31 leave 1: only the first", x, r -> r.till(-1), r -> r.till(0), -1);
        for (int s = 0; s < 4; s++) {
            x.rule(s, 4);
        }
        x.put(1, 3);
        // By TURNED BOX s + 3 first: it has SLIP s, if the WAY is 1 2 3 0.
        leads("31 by their rules", x, r -> r.till(-1), r -> r.till(0), 0);
        Check.badQuestion("31 i -2", x, r -> r.till(-2));
    }
}
