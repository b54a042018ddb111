/** Promises 1 to 13: a room. */
public final class RoomTest {
    private static final String MOST_REPORTS = "missed 0;missed 1;missed 2;found 0 1;found 1 2;found 2 5;missed 3;missed 4;";

    public static void main(String[] args) {
        p1ANewObject();
        p2Boxes();
        p3Put();
        p4Rule();
        p5Swap();
        p6Lay();
        p7Undo();
        p8Know();
        p9Report();
        p10Forget();
        p11Type();
        p12Clear();
        p13ReadsItems();
        p13ReadTakesThePlaceOfAllBut();
        p13Faults();
        p13FaultsAtTheirLimits();
        Check.end();
    }

    private static void countsAre(String what, BoxRings x, int... want) {
        for (int i = 0; i < want.length; i++) {
            Check.due(what + ", count(" + i + ")", x.count(i), want[i]);
        }
    }

    private static void p1ANewObject() {
        BoxRings x = new BoxRings();
        countsAre("1 new", x, 5, 2, 1, 0, 0, 0, 0, 0);
        Check.due("1 rank", x.rank(), 0);
        for (int b = 0; b < 5; b++) {
            Check.due("1 slip", x.slip(b), b);
            Check.due("1 rule", x.rule(b, 0), 0);
        }
        Check.fraction("1 fraction", x, 0, 1);
        for (int what = 0; what < 3; what++) {
            Check.due("1 status", x.status(what), 0);
        }
        Check.no("1 nothing to undo", x, r -> r.undo());
        Check.no("1 no image 0", x, r -> r.from(0));
        Check.no("1 no image 1", x, r -> r.from(1));
        Check.due("1 all may be", x.mayBe(-1), 120);
    }

    private static void p2Boxes() {
        BoxRings x = Check.room("boxes 6;leave 4;turn 3;rule 1 2;known 1 1;found 0 1;move 5;");
        x.swap(0, 1);
        x.image(0);
        x.chance(1);
        long above = x.part(0);
        long below = x.part(1);
        int bytes = x.count(6);
        Check.bad("2 boxes(1)", x, r -> r.boxes(1));
        Check.bad("2 boxes(8)", x, r -> r.boxes(8));
        Check.bad("2 boxes(-1)", x, r -> r.boxes(-1));
        Check.due("2 boxes(7)", x.boxes(7), 6);
        countsAre("2 boxes(7)", x, 7, 2, 1, 0, 0, 0, bytes, 0);
        Check.due("2 rank", x.rank(), 0);
        Check.due("2 rule", x.rule(1, 0), 0);
        Check.fraction("2 fraction stays", x, above, below);
        Check.due("2 status stays", x.status(0), 3);
        Check.due("2 image stays", x.from(0), 1);
        countsAre("2 from(0)", x, 6, 4, 3, 1, 1, 1, bytes, 1);
        Check.due("2 boxes(2)", x.boxes(2), 6);
        Check.due("2 boxes(2) again", x.boxes(2), 2);
        Check.due("2 all of 2", x.mayBe(-1), 2);
    }

    private static void p3Put() {
        BoxRings x = new BoxRings();
        Check.due("3 leave", x.put(0, 5), 2);
        Check.due("3 leave again", x.put(0, 1), 5);
        Check.due("3 turn", x.put(1, 6), 1);
        Check.due("3 turn again", x.put(1, 0), 6);
        countsAre("3", x, 5, 1, 0);
        Check.bad("3 leave 0", x, r -> r.put(0, 0));
        Check.bad("3 leave 6 of 5", x, r -> r.put(0, 6));
        Check.bad("3 turn 7", x, r -> r.put(1, 7));
        Check.bad("3 turn -1", x, r -> r.put(1, -1));
        Check.bad("3 put(2, 1)", x, r -> r.put(2, 1));
        Check.bad("3 put(-1, 1)", x, r -> r.put(-1, 1));
        x.boxes(7);
        Check.due("3 leave 7 of 7", x.put(0, 7), 2);
    }

    private static void p4Rule() {
        BoxRings x = new BoxRings();
        Check.due("4 rule", x.rule(4, 5), 0);
        Check.due("4 rule again", x.rule(4, 3), 5);
        Check.due("4 of another", x.rule(0, 0), 0);
        Check.bad("4 seeker 5", x, r -> r.rule(5, 0));
        Check.bad("4 seeker -1", x, r -> r.rule(-1, 0));
        Check.bad("4 rule 6", x, r -> r.rule(0, 6));
        Check.bad("4 rule -1", x, r -> r.rule(0, -1));
        Check.due("4 stays", x.rule(4, 3), 3);
    }

    private static void p5Swap() {
        BoxRings x = new BoxRings();
        Check.due("5 swap", x.swap(0, 4), 1);
        Check.due("5 slip(0)", x.slip(0), 4);
        Check.due("5 slip(4)", x.slip(4), 0);
        Check.due("5 swap", x.swap(1, 0), 1);
        Check.due("5 slip(1)", x.slip(1), 4);
        Check.due("5 may be undone", x.count(5), 2);
        Check.bad("5 alike", x, r -> r.swap(2, 2));
        Check.bad("5 box 5", x, r -> r.swap(0, 5));
        Check.bad("5 box -1", x, r -> r.swap(-1, 0));
    }

    private static void p6Lay() {
        BoxRings x = new BoxRings();
        Check.due("6 lay", x.lay(119), 0);
        Check.due("6 lay again", x.lay(37), 119);
        int[] slips = {1, 3, 0, 4, 2};
        for (int b = 0; b < 5; b++) {
            Check.due("6 slip", x.slip(b), slips[b]);
        }
        Check.due("6 may be undone", x.count(5), 2);
        Check.bad("6 rank 120", x, r -> r.lay(120));
        Check.bad("6 rank -1", x, r -> r.lay(-1));
        x.boxes(2);
        Check.bad("6 rank 2 of 2", x, r -> r.lay(2));
        Check.due("6 rank 1 of 2", x.lay(1), 0);
    }

    private static void p7Undo() {
        BoxRings x = new BoxRings();
        x.move(1);
        x.lay(5);
        x.swap(0, 1);
        int swapped = x.rank();
        x.make(0);
        Check.due("7 undo of a move made", x.undo(), 1);
        Check.due("7 rank", x.rank(), swapped);
        Check.due("7 undo of a swap", x.undo(), 1);
        Check.due("7 rank", x.rank(), 5);
        Check.due("7 undo of a laying", x.undo(), 1);
        Check.due("7 rank", x.rank(), 0);
        Check.due("7 what is no swap stays", x.count(7), 1);
        Check.no("7 no more", x, r -> r.undo());
        for (int rank = 1; rank <= 13; rank++) {
            x.lay(rank);
        }
        Check.due("7 ten at most", x.count(5), 10);
        for (int rank = 12; rank >= 3; rank--) {
            x.undo();
            Check.due("7 back to", x.rank(), rank);
        }
        Check.no("7 not an eleventh", x, r -> r.undo());
        Check.due("7 stays", x.rank(), 3);
        x.lay(3);
        Check.due("7 a laying of the same WAY is one, too", x.undo(), 1);
    }

    private static void p8Know() {
        BoxRings x = new BoxRings();
        x.lay(1);
        Check.due("8 know", x.know(0, 4), 1);
        Check.due("8 know, whatever the WAY is", x.know(4, 0), 1);
        Check.due("8 how many", x.count(3), 2);
        Check.no("8 the box", x, r -> r.know(0, 1));
        Check.no("8 the slip", x, r -> r.know(1, 4));
        Check.no("8 both", x, r -> r.know(0, 4));
        Check.bad("8 box 5", x, r -> r.know(5, 1));
        Check.bad("8 slip 5", x, r -> r.know(1, 5));
        Check.bad("8 box -1", x, r -> r.know(-1, 1));
        Check.bad("8 BAD is ahead of NO", x, r -> r.know(0, -1));
        Check.due("8 the way stays", x.rank(), 1);
    }

    private static void p9Report() {
        BoxRings x = new BoxRings();
        for (int i = 0; i < 7; i++) {
            Check.due("9 report", x.report(i % 5, i % 6), i);
        }
        Check.bad("9 seeker 5", x, r -> r.report(5, 0));
        Check.bad("9 seeker -1", x, r -> r.report(-1, 0));
        Check.bad("9 opened 6 of 5", x, r -> r.report(0, 6));
        Check.bad("9 opened -1", x, r -> r.report(0, -1));
        Check.due("9 the eighth", x.report(4, 5), 7);
        Check.full("9 a ninth", x, r -> r.report(0, 0));
        Check.bad("9 BAD is ahead of FULL", x, r -> r.report(0, 6));
        Check.due("9 how many", x.count(4), 8);
    }

    private static void p10Forget() {
        BoxRings x = Check.room("boxes 4;known 0 1;known 3 2;found 0 1;missed 1;missed 2;");
        Check.bad("10 forget(2)", x, r -> r.forget(2));
        Check.bad("10 forget(-1)", x, r -> r.forget(-1));
        Check.due("10 known", x.forget(0), 2);
        Check.due("10 known, none", x.forget(0), 0);
        Check.due("10 reports stay", x.count(4), 3);
        Check.due("10 reports", x.forget(1), 3);
        Check.due("10 reports, none", x.forget(1), 0);
        Check.due("10 all may be", x.mayBe(-1), 24);
        Check.due("10 known anew", x.know(0, 2), 1);
        Check.due("10 known stays", x.forget(1), 0);
        Check.due("10 known stays", x.count(3), 1);
    }

    private static void p11Type() {
        BoxRings x = new BoxRings();
        Check.bad("11 -1", x, r -> r.type(-1));
        Check.bad("11 128", x, r -> r.type(128));
        for (int i = 0; i < 150; i++) {
            Check.due("11 type", x.type(i == 0 ? 127 : i == 1 ? 0 : ' '), i + 1);
        }
        Check.full("11 a 151st", x, r -> r.type('a'));
        Check.bad("11 BAD is ahead of FULL", x, r -> r.type(128));
        Check.due("11 how many", x.count(6), 150);
    }

    private static void p12Clear() {
        BoxRings x = new BoxRings();
        Check.due("12 empty", x.clear(), 0);
        Check.typed(x, "boxes 4;");
        Check.due("12 clear", x.clear(), 8);
        Check.due("12 how many", x.count(6), 0);
        Check.due("12 nothing is read", x.read(), -10);
    }

    private static void p13ReadsItems() {
        BoxRings x = new BoxRings();
        Check.due("13 one item", Check.readOf(x, "boxes 2;"), 1);
        Check.due("13 boxes", x.count(0), 2);
        Check.due("13 without blanks", Check.readOf(x, "boxes6;leave3;turn0;rule5 4;"), 4);
        countsAre("13 without blanks", x, 6, 3, 0, 0, 0, 0);
        Check.due("13 rule", x.rule(5, 0), 4);
        Check.due("13 with blanks", Check.readOf(x, "  boxes   7  ;  swap 0 6 ; swap  6 1;  "), 3);
        Check.due("13 slip(0)", x.slip(0), 6);
        Check.due("13 slip(6)", x.slip(6), 1);
        Check.due("13 nothing may be undone", x.count(5), 0);
        Check.due("13 what is known", Check.readOf(x, "boxes 3;known 2 0;known 0 2;found 1 3;missed 0;"), 5);
        countsAre("13 what is known", x, 3, 2, 1, 2, 2, 0);
        Check.due("13 moves", Check.readOf(x, "boxes 7;move 5039;move 0;move 719;move 0042;"), 5);
        Check.due("13 a move of four figures", x.make(0), 5039);
        Check.due("13 moves", x.count(7), 4);
        Check.due("13 leave more than n", Check.readOf(x, "boxes 3;leave 7;"), 2);
        Check.due("13 is n", x.count(1), 3);
        Check.due("13 the last leave", Check.readOf(x, "boxes 3;leave 1;leave 3;turn 2;turn 6;"), 5);
        countsAre("13 the last leave", x, 3, 3, 6);
        Check.due("13 eight reports", Check.readOf(x, "boxes 5;" + MOST_REPORTS), 9);
        Check.due("13 eight reports", x.count(4), 8);
    }

    private static void p13ReadTakesThePlaceOfAllBut() {
        BoxRings x = Check.room("boxes 4;leave 3;turn 4;rule 0 5;swap 0 1;known 0 1;missed 0;move 3;");
        x.image(0);
        x.lay(4);
        x.rule(1, 1);
        x.boxes(5);
        x.chance(0);
        x.lay(7);
        x.know(0, 0);
        x.report(0, 0);
        x.move(1);
        Check.bad("13 counts", x, r -> r.slip(9));
        Check.due("13 read", Check.readOf(x, "boxes 3;"), 1);
        countsAre("13 all is as at first", x, 3, 2, 1, 0, 0, 0, 8, 0);
        Check.due("13 rank", x.rank(), 0);
        Check.due("13 rule", x.rule(1, 0), 0);
        Check.fraction("13 the fraction stays", x, 1, 1);
        Check.due("13 status stays", x.status(0), 1);
        Check.due("13 the text is read again", x.read(), 1);
        Check.due("13 images stay", x.from(0), 1);
        countsAre("13 from(0)", x, 4, 3, 4, 1, 1, 0, 8, 1);
    }

    private static void fault(String text, int at) {
        BoxRings x = Check.room("boxes 6;leave 4;turn 3;rule 1 2;swap 0 3;known 1 1;found 0 1;move 5;");
        x.swap(0, 1);
        Check.typed(x, text);
        Check.tells("13 read of '" + text + "'", x, r -> r.read(), -10 - at);
        x.clear();
        Check.due("13 undo behind a fault", x.undo(), 1);
        Check.due("13 slip(0) behind a fault", x.slip(0), 3);
    }

    private static void p13Faults() {
        fault("", 0);
        fault("   ", 3);
        fault("b", 0);
        fault(" boxe 3;", 1);
        fault("boxess 3;", 0);
        fault("foxes 3;", 0);
        fault("boxes 3;burn 1;", 8);
        fault("boxes 3;moves 1;", 8);
        fault("boxes 3;mov 1;", 8);
        fault(";", 0);
        fault("3;", 0);
        fault("leave 1;boxes 3;", 0);
        fault("boxes", 5);
        fault("boxes  ", 7);
        fault("boxes 3", 7);
        fault("boxes 3 ", 8);
        fault("boxes;", 5);
        fault("boxes 3 3;", 8);
        fault("boxes 3;;", 8);
        fault("boxes 3; boxes 3;", 9);
        fault("boxes 3leave 2;", 7);
        fault("boxes leave;", 6);
        fault("Boxes 3;", 0);
        fault("boxes 3;\tleave 2;", 8);
        fault("boxes 3;leave#2;", 13);
        fault("boxes 3;leave -1;", 14);
        fault("boxes 3;swap 0 1;jump 1;", 17);
        fault("boxes 3;swap 01;", 15);
        fault("boxes 3;swap 0", 14);
        fault("boxes 3;missed 0 0;", 17);
        fault("boxes 3;lay 1;", 8);
        fault("boxes 5;leave 12345;", 14);
        fault("boxes 00003;", 6);
        fault("boxes 5;leave 1 99999999999;", 16);
        fault("boxes 5;leave 2;turn 4294967296;", 21);
    }

    private static void p13FaultsAtTheirLimits() {
        fault("boxes 1;", 6);
        fault("boxes 8;", 6);
        fault("boxes 3;leave 0;", 14);
        fault("boxes 3;turn 7;", 13);
        fault("boxes 3;rule 3 0;", 13);
        fault("boxes 3;rule 2 6;", 15);
        fault("boxes 3;swap 3 0;", 13);
        fault("boxes 3;swap 0 3;", 15);
        fault("boxes 3;swap 1 1;", 15);
        fault("boxes 3;found 3 1;", 14);
        fault("boxes 3;found 0 0;", 16);
        fault("boxes 3;found 0 4;", 16);
        fault("boxes 3;missed 3;", 15);
        fault("boxes 3;known 3 0;", 14);
        fault("boxes 3;known 0 3;", 16);
        fault("boxes 3;known 0 0;known 0 1;", 24);
        fault("boxes 3;known 0 0;known 1 0;", 26);
        fault("boxes 3;move 6;", 13);
        fault("boxes 7;move 5040;", 13);
        fault("boxes 2;move 0;move 0;move 0;move 0;move 0;", 36);
        fault("boxes 5;" + MOST_REPORTS + "missed 9;", 8 + MOST_REPORTS.length());
        fault("boxes 5;" + MOST_REPORTS + "found 9 9;", 8 + MOST_REPORTS.length());
    }
}
