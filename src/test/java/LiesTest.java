/** Promises 14 to 25: as it lies. */
public final class LiesTest {
    public static void main(String[] args) {
        p14Slip();
        p15Rank();
        p16Rings();
        p17OpenedByRing();
        p17OpenedInARow();
        p17OpenedTurned();
        p17OpenedByStrides();
        p18Finds();
        p19Worked();
        p20Back();
        p21Undoes();
        p22GoesWith();
        p23Roots();
        p24Alike();
        p25Even();
        Check.end();
    }

    /** RINGS 0 1 2, 3 4 and 5 of six BOXES: SLIPS 1 2 0 4 3 5. */
    private static BoxRings sixInThreeRings() {
        return Check.room("boxes 6;swap 0 1;swap 1 2;swap 3 4;");
    }

    private static void opens(String what, BoxRings x, int seeker, int... boxes) {
        Check.tells(what + ", how many", x, r -> r.opened(seeker, -1), boxes.length);
        for (int i = 0; i < boxes.length; i++) {
            int at = i;
            Check.tells(what + ", box " + i, x, r -> r.opened(seeker, at), boxes[i]);
        }
        Check.tells(what + ", no more", x, r -> r.opened(seeker, boxes.length), -5);
        Check.tells(what + ", far more", x, r -> r.opened(seeker, Integer.MAX_VALUE), -5);
    }

    private static BoxRings withRule(String text, int rule) {
        BoxRings x = Check.room(text);
        for (int s = 0; s < x.count(0); s++) {
            x.rule(s, rule);
        }
        return x;
    }

    private static void p14Slip() {
        BoxRings x = sixInThreeRings();
        int[] slips = {1, 2, 0, 4, 3, 5};
        for (int b = 0; b < 6; b++) {
            int box = b;
            Check.tells("14 slip", x, r -> r.slip(box), slips[b]);
        }
        Check.bad("14 box 6", x, r -> r.slip(6));
        Check.bad("14 box -1", x, r -> r.slip(-1));
    }

    private static void p15Rank() {
        BoxRings x = new BoxRings();
        Check.tells("15 first", x, r -> r.rank(), 0);
        x.swap(3, 4);
        Check.tells("15 second", x, r -> r.rank(), 1);
        x.lay(119);
        Check.tells("15 last", x, r -> r.rank(), 119);
        x = sixInThreeRings();
        // 1 2 0 4 3 5: 120 WAYS begin by 0, 24 by 1 0, and of 1 2 0 two by 1 2 0 3.
        Check.tells("15 of six", x, r -> r.rank(), 120 + 24 + 2);
    }

    private static void p16Rings() {
        BoxRings x = sixInThreeRings();
        Check.tells("16 how many", x, r -> r.rings(-1), 3);
        int[] lengths = {3, 3, 3, 2, 2, 1};
        for (int b = 0; b < 6; b++) {
            int box = b;
            Check.tells("16 of a box", x, r -> r.rings(box), lengths[b]);
        }
        Check.badQuestion("16 box 6", x, r -> r.rings(6));
        Check.badQuestion("16 box -2", x, r -> r.rings(-2));
        Check.tells("16 at first", new BoxRings(), r -> r.rings(-1), 5);
    }

    private static void p17OpenedByRing() {
        BoxRings x = sixInThreeRings();
        opens("17 leave 2", x, 0, 0, 1);
        opens("17 found at once", x, 5, 5);
        x.put(0, 6);
        opens("17 found at last", x, 2, 2, 0, 1);
        opens("17 ring of two", x, 3, 3, 4);
        Check.badQuestion("17 seeker 6", x, r -> r.opened(6, -1));
        Check.badQuestion("17 seeker -1", x, r -> r.opened(-1, 0));
        Check.badQuestion("17 i -2", x, r -> r.opened(0, -2));
        x.put(0, 1);
        opens("17 leave 1", x, 0, 0);
    }

    private static void p17OpenedInARow() {
        BoxRings x = withRule("boxes 7;leave 7;", 1);
        opens("17 row", x, 6, 0, 1, 2, 3, 4, 5, 6);
        opens("17 row, found", x, 2, 0, 1, 2);
        x = withRule("boxes 7;leave 7;", 2);
        opens("17 back", x, 0, 6, 5, 4, 3, 2, 1, 0);
        opens("17 back, found", x, 5, 6, 5);
        x = withRule("boxes 7;leave 7;", 3);
        opens("17 even of 7", x, 5, 0, 2, 4, 6, 1, 3, 5);
        x = withRule("boxes 6;leave 5;", 3);
        opens("17 even of 6", x, 5, 0, 2, 4, 1, 3);
    }

    private static void p17OpenedTurned() {
        BoxRings x = withRule("boxes 5;leave 5;turn 1;", 4);
        opens("17 turned, one behind the other", x, 0, 1, 2, 3, 4, 0);
        x.put(1, 0);
        opens("17 turned by 0", x, 3, 3);
        x.put(1, 5);
        opens("17 turned once round", x, 3, 3);
        x.put(1, 6);
        opens("17 turned by 6 of 5", x, 3, 4, 0, 1, 2, 3);
        x = withRule("boxes 5;leave 5;turn 2;swap 0 1;", 4);
        // SLIPS 1 0 2 3 4, SEEKER 4: BOX 4 + 2, that is 1; 0 + 2; 2 + 2.
        opens("17 turned by 2", x, 4, 1, 2, 4);
        x = withRule("boxes 5;leave 5;turn 4;swap 0 3;swap 1 4;swap 3 4;", 4);
        // SLIPS 3 4 2 1 0, SEEKER 2: BOX 2 + 4, that is 1; 4 + 4: 3; 1 + 4: 0; 3 + 4: 2.
        opens("17 turned by 4", x, 2, 1, 3, 0, 2);
        x.put(0, 3);
        opens("17 turned, missed", x, 2, 1, 3, 0);
        x = withRule("boxes 3;leave 3;turn 2;", 4);
        opens("17 turned backward", x, 0, 2, 1, 0);
        x = withRule("boxes 2;leave 2;turn 3;", 4);
        opens("17 turned by 3 of 2", x, 0, 1, 0);
    }

    private static void p17OpenedByStrides() {
        BoxRings x = withRule("boxes 7;leave 7;turn 3;", 5);
        opens("17 stride 3 of 7", x, 4, 0, 3, 6, 2, 5, 1, 4);
        x.put(1, 0);
        opens("17 stride 0 is 1", x, 6, 0, 1, 2, 3, 4, 5, 6);
        x = withRule("boxes 6;leave 6;turn 2;", 5);
        // BOX 4 and 2 on is BOX 0, which was opened: BOX 1, 3, 5.
        opens("17 stride 2 of 6", x, 5, 0, 2, 4, 1, 3, 5);
        x.put(1, 4);
        // 0, 4, 2, then 0 was opened: 1; 5; then 3.
        opens("17 stride 4 of 6", x, 3, 0, 4, 2, 1, 5, 3);
        x.put(1, 6);
        opens("17 stride 6 of 6", x, 5, 0, 1, 2, 3, 4, 5);
        x = withRule("boxes 2;leave 2;turn 2;", 5);
        opens("17 stride 2 of 2", x, 1, 0, 1);
        x = withRule("boxes 4;leave 4;turn 5;", 5);
        opens("17 stride 5 of 4", x, 3, 0, 1, 2, 3);
    }

    private static void p18Finds() {
        BoxRings x = sixInThreeRings();
        Check.tells("18 leave 2", x, r -> r.finds(), 0b111000);
        x.put(0, 3);
        Check.tells("18 leave 3", x, r -> r.finds(), 0b111111);
        x.put(0, 1);
        Check.tells("18 leave 1", x, r -> r.finds(), 0b100000);
        x.rule(1, 1);
        // SEEKER 1 looks into BOX 0, which has SLIP 1.
        Check.tells("18 each by his own rule", x, r -> r.finds(), 0b100010);
    }

    private static void p19Worked() {
        BoxRings x = sixInThreeRings();
        int way = x.rank();
        Check.tells("19 0 times", x, r -> r.worked(0), 0);
        Check.tells("19 once", x, r -> r.worked(1), way);
        // Twice: 2 0 1 3 4 5.
        Check.tells("19 twice", x, r -> r.worked(2), 2 * 120);
        // Thrice: 0 1 2 4 3 5.
        Check.tells("19 thrice", x, r -> r.worked(3), 2);
        Check.tells("19 six times", x, r -> r.worked(6), 0);
        Check.tells("19 99 times", x, r -> r.worked(99), 2);
        Check.bad("19 100 times", x, r -> r.worked(100));
        Check.bad("19 -1 times", x, r -> r.worked(-1));
    }

    private static void p20Back() {
        Check.tells("20 at first", new BoxRings(), r -> r.back(), 1);
        Check.tells("20 rings of 3 and 2", sixInThreeRings(), r -> r.back(), 6);
        Check.tells("20 rings of 4 and 3", Check.room("boxes 7;swap 0 1;swap 1 2;swap 2 3;swap 4 5;swap 5 6;"),
            r -> r.back(), 12);
        Check.tells("20 rings of 4 and 2", Check.room("boxes 6;swap 0 1;swap 1 2;swap 2 3;swap 4 5;"),
            r -> r.back(), 4);
        Check.tells("20 ring of 7", Check.room("boxes 7;swap 0 1;swap 1 2;swap 2 3;swap 3 4;swap 4 5;swap 5 6;"),
            r -> r.back(), 7);
    }

    private static void p21Undoes() {
        // 1 2 0 4 3 5 is undone by 2 0 1 4 3 5.
        Check.tells("21 undoes", sixInThreeRings(), r -> r.undoes(), 2 * 120 + 2);
        Check.tells("21 first", new BoxRings(), r -> r.undoes(), 0);
        BoxRings x = Check.room("boxes 2;swap 0 1;");
        Check.tells("21 of two", x, r -> r.undoes(), 1);
        x.boxes(4);
        x.lay(23);
        x.undoes();
        x.lay(0);
        Check.tells("21 behind another", x, r -> r.undoes(), 0);
    }

    private static void p22GoesWith() {
        Check.tells("22 first", new BoxRings(), r -> r.goesWith(), 120);
        Check.tells("22 rings of 3, 2 and 1", sixInThreeRings(), r -> r.goesWith(), 6);
        Check.tells("22 three rings of 2", Check.room("boxes 6;swap 0 1;swap 2 3;swap 4 5;"), r -> r.goesWith(), 48);
        Check.tells("22 of two", Check.room("boxes 2;swap 0 1;"), r -> r.goesWith(), 2);
    }

    private static void p23Roots() {
        BoxRings x = new BoxRings();
        // Of five: the first, 10 WAYS with one ring of two, 15 with two.
        Check.tells("23 squares", x, r -> r.roots(2), 26);
        Check.tells("23 cubes", x, r -> r.roots(3), 21);
        Check.tells("23 fifths", x, r -> r.roots(5), 25);
        Check.tells("23 sevenths", x, r -> r.roots(7), 1);
        // Of 9 times the first: rings of 3 alone.
        Check.tells("23 ninths", x, r -> r.roots(9), 21);
        x.swap(0, 1);
        Check.tells("23 no square", x, r -> r.roots(2), 0);
        Check.tells("23 cubes of a swap", x, r -> r.roots(3), 1 + 2);
        x.swap(2, 3);
        Check.tells("23 of two rings of 2", x, r -> r.roots(2), 2);
        Check.bad("23 m 1", x, r -> r.roots(1));
        Check.bad("23 m 10", x, r -> r.roots(10));
        Check.bad("23 m -2", x, r -> r.roots(-2));
    }

    private static void p24Alike() {
        BoxRings x = new BoxRings();
        Check.tells("24 first", x, r -> r.alike(0), 1);
        Check.tells("24 a swap", x, r -> r.alike(1), 0);
        x.swap(0, 4);
        Check.tells("24 two swaps", x, r -> r.alike(1), 1);
        // Rings of 2 2 1 and of 3 1 1 are as many; so are 4 1 and 3 2.
        x.lay(1 + 6);
        Check.tells("24 as many rings, of other lengths", x, r -> r.alike(3), 0);
        int alike = 0;
        for (int rank = 0; rank < 120; rank++) {
            alike += x.alike(rank);
        }
        Check.due("24 rings of 2, 2 and 1", alike, 15);
        Check.bad("24 rank 120", x, r -> r.alike(120));
        Check.bad("24 rank -1", x, r -> r.alike(-1));
    }

    private static void p25Even() {
        BoxRings x = new BoxRings();
        Check.tells("25 first", x, r -> r.even(), 1);
        x.swap(0, 4);
        Check.tells("25 one swap", x, r -> r.even(), 0);
        x.swap(4, 2);
        Check.tells("25 two swaps", x, r -> r.even(), 1);
        x.swap(4, 3);
        Check.tells("25 three swaps", x, r -> r.even(), 0);
        int even = 0;
        for (int rank = 0; rank < 120; rank++) {
            x.lay(rank);
            even += x.even();
        }
        Check.due("25 half of all", even, 60);
    }
}
