/** Promises 41 to 46: what there is. */
public final class ThereTest {
    public static void main(String[] args) {
        p41Part();
        p42Image();
        p43From();
        p43FromAFullRoom();
        p44Status();
        p45Count();
        p46Digest();
        Check.end();
    }

    private static void p41Part() {
        BoxRings x = new BoxRings();
        Check.fraction("41 at first", x, 0, 1);
        x.chance(31);
        // Of 120 WAYS 26 have rings of two at most.
        Check.fraction("41 lowest terms", x, 13, 60);
        Check.no("41 refused", Check.room("boxes 3;known 0 1;found 0 1;"), r -> r.chance(7));
        x.know(0, 1);
        x.report(0, 1);
        Check.no("41 refused", x, r -> r.chance(31));
        Check.fraction("41 stays when refused", x, 13, 60);
        x.forget(1);
        x.report(0, 0);
        x.chance(1);
        Check.fraction("41 nought", x, 0, 1);
        Check.bad("41 part(2)", x, r -> r.part(2));
        Check.bad("41 part(-1)", x, r -> r.part(-1));
    }

    private static void p42Image() {
        BoxRings x = new BoxRings();
        Check.bad("42 image(2)", x, r -> r.image(2));
        Check.bad("42 image(-1)", x, r -> r.image(-1));
        Check.tells("42 image(0)", x, r -> r.image(0), 1);
        x.lay(9);
        Check.tells("42 image(1)", x, r -> r.image(1), 1);
        x.from(0);
        Check.due("42 the first stays", x.rank(), 0);
        x.from(1);
        Check.due("42 the second", x.rank(), 9);
        x.lay(10);
        Check.tells("42 image(0) anew", x, r -> r.image(0), 1);
        x.lay(11);
        x.from(0);
        Check.due("42 the new one", x.rank(), 10);
    }

    private static void p43From() {
        BoxRings x = Check.room("boxes 6;leave 4;turn 3;rule 1 2;known 1 1;found 0 1;move 5;");
        Check.no("43 none was kept", x, r -> r.from(0));
        Check.bad("43 from(2)", x, r -> r.from(2));
        Check.bad("43 from(-1)", x, r -> r.from(-1));
        x.lay(100);
        x.swap(0, 1);
        int rank = x.rank();
        x.chance(0);
        long digest = x.digest();
        x.image(1);
        Check.no("43 none was kept as 0", x, r -> r.from(0));
        x.boxes(3);
        x.lay(4);
        x.lay(3);
        x.lay(2);
        x.chance(4);
        x.look();
        Check.typed(x, "boxes");
        Check.due("43 from", x.from(1), 1);
        Check.fraction("43 the fraction stays", x, 2, 1);
        Check.due("43 the text stays", x.clear(), 5);
        Check.due("43 status stays", x.status(1), 2);
        Check.typed(x, "boxes 6;leave 4;turn 3;rule 1 2;known 1 1;found 0 1;move 5;");
        x.chance(0);
        Check.due("43 all else is as it was", x.digest(), digest);
        Check.due("43 rank", x.rank(), rank);
        Check.due("43 what may be undone", x.undo(), 1);
        Check.due("43 undone", x.rank(), 100);
        Check.due("43 what may be undone", x.undo(), 1);
        Check.due("43 undone", x.rank(), 0);
        Check.no("43 no more", x, r -> r.undo());
        Check.due("43 it goes on from it again", x.from(1), 1);
        Check.due("43 the image stays", x.rank(), rank);
    }

    private static void p43FromAFullRoom() {
        BoxRings x = Check.room("boxes 7;leave 7;turn 6;move 5039;move 5038;move 5037;move 5036;");
        for (int s = 0; s < 7; s++) {
            x.rule(s, 1 + s % 5);
            x.know(s, 6 - s);
            x.report(s, 1 + s % 3);
        }
        x.report(6, 7);
        for (int rank = 1000; rank <= 1010; rank++) {
            x.lay(rank);
        }
        long digest = x.digest();
        x.image(0);
        x.boxes(7);
        for (int i = 0; i < 12; i++) {
            x.swap(0, 6);
            x.report(0, 0);
            x.move(0);
        }
        x.from(0);
        Check.due("43 of a full room", x.digest(), digest);
        for (int rank = 1009; rank >= 1000; rank--) {
            Check.due("43 undo of a full room", x.undo(), 1);
            Check.due("43 undone of a full room", x.rank(), rank);
        }
    }

    private static void p44Status() {
        BoxRings x = new BoxRings();
        x.slip(5);
        x.opened(0, -2);
        x.undo();
        x.drop();
        x.from(0);
        for (int i = 0; i < 9; i++) {
            x.report(0, 0);
        }
        Check.due("44 BAD", x.status(0), 2);
        Check.due("44 NO", x.status(1), 3);
        Check.due("44 FULL", x.status(2), 1);
        Check.refuses("44 status(3)", x, r -> r.status(3), -1, Check.AS_BAD);
        Check.refuses("44 status(-1)", x, r -> r.status(-1), -1, Check.AS_BAD);
        Check.due("44 counts as BAD", x.status(0), 4);
        x.opened(0, 5);
        x.mayBe(200);
        x.fewest(1, 0);
        x.read();
        Check.due("44 -5, NONE and a FAULT do not", x.status(0) + x.status(1) + x.status(2), 8);
    }

    private static void p45Count() {
        BoxRings x = Check.room("boxes 6;leave 4;turn 3;known 1 1;known 2 0;found 0 1;move 5;move 6;move 0;");
        x.swap(0, 1);
        x.swap(0, 1);
        x.swap(2, 1);
        x.swap(3, 1);
        x.clear();
        Check.typed(x, "abcde");
        int[] want = {6, 4, 3, 2, 1, 4, 5, 3};
        for (int i = 0; i < want.length; i++) {
            int what = i;
            Check.tells("45 count(" + i + ")", x, r -> r.count(what), want[i]);
        }
        Check.bad("45 count(8)", x, r -> r.count(8));
        Check.bad("45 count(-1)", x, r -> r.count(-1));
    }

    private static long over(long... values) {
        long h = 823;
        for (long v : values) {
            h = 31 * h + v;
        }
        return h;
    }

    private static void p46Digest() {
        BoxRings x = new BoxRings();
        Check.tells("46 at first", x, r -> r.digest(), over(5, 2, 1, 0, 0, 0, 0, 0,
            0, -1, 1, -1, 2, -1, 3, -1, 4, -1, 0, 0, 0, 0, 0, 0, 1));
        x.boxes(3);
        x.put(0, 3);
        x.put(1, 0);
        x.know(1, 0);
        x.report(2, 3);
        x.report(1, 0);
        x.swap(0, 2);
        x.type(7);
        x.type(8);
        x.move(5);
        x.move(4);
        x.rule(0, 1);
        x.rule(2, 5);
        Check.tells("46 of three", x, r -> r.digest(), over(3, 3, 0, 1, 2, 1, 2, 2,
            2, -1, 1, 0, 0, -1, 1, 0, 5, 2, 3, 1, 0, 5, 4, 0, 1));
        x.forget(1);
        x.chance(7);
        Check.tells("46 with a fraction", x, r -> r.digest(), over(3, 3, 0, 1, 0, 1, 2, 2,
            2, -1, 1, 0, 0, -1, 1, 0, 5, 5, 4, 1, 1));
    }
}
