/** Promises 32 to 40: what may be. */
public final class MayBeTest {
    public static void main(String[] args) {
        p32MayBeByWhatIsKnown();
        p32MayBeByReports();
        p33Chance();
        p34Look();
        p35Advice();
        p36Worst();
        p37Mended();
        p38Third();
        p39Laid();
        p40Lucky();
        Check.end();
    }

    /** SEEKER 0 finds at once, and BOX 0 is known to have SLIP 1: no WAY may be. */
    private static BoxRings noWay() {
        return Check.room("boxes 4;known 0 1;found 0 1;");
    }

    private static void p32MayBeByWhatIsKnown() {
        BoxRings x = new BoxRings();
        Check.tells("32 all", x, r -> r.mayBe(-1), 120);
        Check.tells("32 the last", x, r -> r.mayBe(119), 119);
        Check.tells("32 no more", x, r -> r.mayBe(120), -5);
        Check.badQuestion("32 i -2", x, r -> r.mayBe(-2));
        x.know(1, 4);
        Check.tells("32 one known", x, r -> r.mayBe(-1), 24);
        // 0 4 1 2 3, the last but one 3 4 2 0 1, the last 3 4 2 1 0.
        Check.tells("32 the first", x, r -> r.mayBe(0), 3 * 6);
        Check.tells("32 the last", x, r -> r.mayBe(23), 3 * 24 + 3 * 6 + 5);
        Check.tells("32 no more", x, r -> r.mayBe(24), -5);
        x.lay(0);
        Check.tells("32 whatever the way is", x, r -> r.mayBe(-1), 24);
        x.know(0, 0);
        x.know(2, 3);
        x.know(3, 2);
        Check.tells("32 four known", x, r -> r.mayBe(-1), 1);
        Check.tells("32 the one", x, r -> r.mayBe(0), 3 * 6 + 2 * 2 + 1);
    }

    private static void p32MayBeByReports() {
        BoxRings x = new BoxRings();
        x.report(0, 1);
        Check.tells("32 found at once", x, r -> r.mayBe(-1), 24);
        x.report(1, 2);
        // BOX 0 has SLIP 0; 1 lies in a ring of two: with 2, 3 or 4, twice each.
        Check.tells("32 found by two", x, r -> r.mayBe(-1), 6);
        x.report(2, 0);
        // 2 lies in a ring of three or more: 1 with 3 or 4 has no third beside 2.
        Check.tells("32 missed", x, r -> r.mayBe(-1), 0);
        Check.tells("32 none", x, r -> r.mayBe(0), -5);
        x.put(0, 1);
        Check.tells("32 by LEAVE as it is: nobody finds behind 1", x, r -> r.mayBe(-1), 0);
        x.forget(1);
        x.put(0, 2);
        x.report(3, 3);
        Check.tells("32 found behind LEAVE", x, r -> r.mayBe(-1), 0);
        x.put(0, 3);
        Check.tells("32 LEAVE as it is", x, r -> r.mayBe(-1), 24);
        x.rule(3, 1);
        // In a row: SLIP 3 in BOX 2.
        Check.tells("32 RULE as it is", x, r -> r.mayBe(-1), 24);
        Check.tells("32 the first", x, r -> r.mayBe(0), 2);
        x.rule(3, 5);
        x.put(1, 2);
        // By strides: BOX 0, 2, 4.
        Check.tells("32 TURN 2, the first", x, r -> r.mayBe(0), 1);
        x.put(1, 4);
        // By strides: BOX 0, 4, 3: at first SLIP 3 lies there.
        Check.tells("32 TURN 4, the first", x, r -> r.mayBe(0), 0);
        x.boxes(7);
        Check.tells("32 of seven", x, r -> r.mayBe(-1), 5040);
        x.know(6, 0);
        x.report(0, 1);
        x.rule(0, 2);
        Check.tells("32 of seven, the last box", x, r -> r.mayBe(-1), 720);
        Check.tells("32 of seven, the first", x, r -> r.mayBe(0), 873);
        x = noWay();
        Check.tells("32 reports and what is known", x, r -> r.mayBe(-1), 0);
    }

    private static void p33Chance() {
        BoxRings x = Check.room("boxes 6;leave 3;");
        Check.due("33 all", x.chance(63), 1);
        // 1 less 1/4, 1/5, 1/6.
        Check.fraction("33 all", x, 23, 60);
        Check.due("33 one", x.chance(4), 1);
        Check.fraction("33 one", x, 1, 2);
        Check.due("33 nobody", x.chance(0), 1);
        Check.fraction("33 nobody", x, 1, 1);
        Check.bad("33 seekers 64", x, r -> r.chance(64));
        Check.bad("33 seekers -1", x, r -> r.chance(-1));
        x.know(0, 1);
        x.know(1, 2);
        x.know(2, 3);
        Check.due("33 a ring of four or more", x.chance(63), 1);
        Check.fraction("33 never", x, 0, 1);
        Check.due("33 the two others", x.chance(0b110000), 1);
        // 3 4 5 share SLIPS 0 4 5: 4 and 5 find unless one of them lies in the ring of 0: 0 4 5, 0 5 4 let.
        Check.fraction("33 the two others", x, 1, 3);
        x = noWay();
        Check.no("33 no way", x, r -> r.chance(1));
        Check.bad("33 BAD is ahead of NO", x, r -> r.chance(16));
        BoxRings y = Check.room("boxes 6;leave 3;");
        for (int s = 0; s < 6; s++) {
            y.rule(s, 1);
        }
        y.chance(63);
        Check.fraction("33 in a row never all", y, 0, 1);
        y.chance(0b011);
        Check.fraction("33 in a row two", y, 1, 5);
    }

    private static void p34Look() {
        BoxRings x = new BoxRings();
        Check.due("34 of like ones the least", x.look(), 0);
        Check.fraction("34 of like ones the least", x, 24, 1);
        x.know(0, 3);
        Check.due("34 not a known one", x.look(), 1);
        Check.fraction("34 not a known one", x, 6, 1);
        x.know(1, 0);
        x.know(2, 1);
        x.know(3, 2);
        Check.due("34 the last", x.look(), 4);
        Check.fraction("34 the last", x, 1, 1);
        x.know(4, 4);
        long above = x.part(0);
        x.put(0, 1);
        Check.tells("34 all known", x, r -> r.look(), -1);
        Check.due("34 the fraction stays", x.part(0), above);
        x.report(4, 0);
        Check.no("34 no way, all known", x, r -> r.look());
        Check.no("34 no way", noWay(), r -> r.look());
        x = new BoxRings();
        x.report(0, 1);
        // BOX 0 has SLIP 0 in all: it tells nothing; any other leaves 6 of 24.
        Check.due("34 a better one", x.look(), 1);
        Check.fraction("34 a better one", x, 6, 1);
        x = Check.room("boxes 3;missed 0;");
        // 1 2 0 and 2 0 1: each BOX tells which.
        Check.due("34 of two ways", x.look(), 0);
        Check.fraction("34 of two ways", x, 1, 1);
        x = Check.room("boxes 3;leave 1;missed 0;");
        // 1 0 2, 1 2 0, 2 0 1, 2 1 0: BOX 0 twice 1, twice 2: (4 + 4) / 4; BOX 1 0 2 0 1: (4 + 1 + 1) / 4.
        Check.due("34 uneven", x.look(), 1);
        Check.fraction("34 uneven", x, 3, 2);
    }

    private static void p35Advice() {
        BoxRings x = Check.room("boxes 6;leave 3;");
        for (int s = 0; s < 6; s++) {
            x.rule(s, 1);
        }
        Check.due("35 rings", x.advice(), 0);
        Check.fraction("35 rings", x, 23, 60);
        Check.due("35 rules stay", x.rule(0, 1), 1);
        x = Check.room("boxes 4;leave 1;turn 3;known 0 1;known 1 2;known 2 3;");
        Check.due("35 turned", x.advice(), 4);
        Check.fraction("35 turned", x, 1, 1);
        x.put(1, 2);
        Check.due("35 by no rule: the least", x.advice(), 0);
        Check.fraction("35 by no rule", x, 0, 1);
        x = Check.room("boxes 4;leave 1;turn 3;known 0 1;known 1 2;found 1 1;");
        Check.no("35 the WAYS that MAY BE by RULES as they are", x, r -> r.advice());
        x.rule(1, 1);
        Check.due("35 by his own rule they may be", x.advice(), 4);
        // 1 2 0 3 and 1 2 3 0: the last by TURN 3.
        Check.fraction("35 by his own rule", x, 1, 2);
        x = Check.room("boxes 4;turn 0;");
        Check.due("35 turned by 0 is as rings: the least", x.advice(), 0);
        Check.fraction("35 turned by 0", x, 5, 12);
        x = Check.room("boxes 3;leave 2;known 0 1;known 2 0;");
        // 1 2 0: in a row SEEKER 0 alone misses, by rings all do.
        Check.due("35 all but one are not all", x.advice(), 0);
        Check.fraction("35 all but one are not all", x, 0, 1);
        x = Check.room("boxes 2;leave 2;");
        Check.due("35 all alike", x.advice(), 0);
        Check.no("35 no way", noWay(), r -> r.advice());
    }

    private static void p36Worst() {
        BoxRings x = Check.room("boxes 4;");
        // Nobody finds in a ring of four: the first is 1 2 3 0; a ring of three leaves one who finds.
        Check.tells("36 rings, rank", x, r -> r.worst(0), 9);
        Check.tells("36 rings, who find", x, r -> r.worst(1), 0);
        x.lay(23);
        Check.tells("36 whatever the way is", x, r -> r.worst(0), 9);
        x.know(0, 0);
        // 0 2 3 1 ahead of 0 3 1 2.
        Check.tells("36 known, rank", x, r -> r.worst(0), 3);
        Check.tells("36 known, who find", x, r -> r.worst(1), 1);
        x.know(1, 1);
        Check.tells("36 all find, rank", x, r -> r.worst(0), 0);
        Check.tells("36 all find", x, r -> r.worst(1), 4);
        Check.bad("36 worst(2)", x, r -> r.worst(2));
        Check.bad("36 worst(-1)", x, r -> r.worst(-1));
        x = noWay();
        Check.no("36 no way", x, r -> r.worst(0));
        Check.no("36 no way", x, r -> r.worst(1));
        Check.bad("36 BAD is ahead of NO", x, r -> r.worst(2));
    }

    private static void p37Mended() {
        BoxRings x = new BoxRings();
        Check.tells("37 all find", x, r -> r.mended(), 0);
        x = Check.room("boxes 7;swap 0 1;swap 1 2;swap 2 3;swap 3 4;swap 4 5;swap 5 6;");
        // One ring of seven, LEAVE 2: three swaps make it 2 2 2 1.
        Check.tells("37 a ring of seven", x, r -> r.mended(), 3);
        x.put(0, 3);
        Check.tells("37 leave 3", x, r -> r.mended(), 2);
        x.put(0, 6);
        Check.tells("37 leave 6", x, r -> r.mended(), 1);
        x.put(0, 1);
        Check.tells("37 leave 1", x, r -> r.mended(), 6);
        BoxRings last = Check.room("boxes 4;leave 1;turn 3;swap 0 3;swap 1 2;");
        // Turned by 3 SEEKER s looks into BOX s - 1; mended is 1 2 3 0 alone.
        for (int s = 0; s < 4; s++) {
            last.rule(s, 4);
        }
        Check.tells("37 turned", last, r -> r.mended(), 1);
        for (int s = 0; s < 7; s++) {
            x.rule(s, 1);
        }
        Check.tells("37 none", x, r -> r.mended(), -1);
        x.put(0, 7);
        Check.tells("37 in a row, leave 7", x, r -> r.mended(), 0);
        // SEEKER 3 looks into BOX 0 alone, the others into their own: 3 must lie there, whose BOX has 0.
        x = Check.room("boxes 4;leave 1;rule 3 1;");
        Check.tells("37 none: two want one box", x, r -> r.mended(), -1);
        x.rule(0, 2);
        Check.tells("37 one swap", x, r -> r.mended(), 1);
        x.know(0, 0);
        Check.tells("37 whatever is known", x, r -> r.mended(), 1);
    }

    private static void p38Third() {
        BoxRings x = Check.room("boxes 4;swap 0 1;swap 1 2;swap 2 3;");
        // 1 2 3 0: swapped 0 with 2 all find, swapped 1 with 3, too; no one can lose.
        Check.tells("38 friend", x, r -> r.third(0), 2);
        Check.tells("38 enemy", x, r -> r.third(1), -1);
        x = new BoxRings();
        Check.tells("38 friend of all who find", x, r -> r.third(0), -1);
        Check.tells("38 enemy of rings of one", x, r -> r.third(1), -1);
        x.put(0, 1);
        Check.tells("38 enemy, the first pair", x, r -> r.third(1), 1);
        x.swap(3, 4);
        // A friend gives back what was swapped; an enemy takes two more.
        Check.tells("38 friend, the last pair", x, r -> r.third(0), 34);
        Check.tells("38 enemy, the first pair", x, r -> r.third(1), 1);
        x.boxes(7);
        x.put(0, 1);
        x.swap(5, 6);
        Check.tells("38 friend of seven", x, r -> r.third(0), 56);
        x = Check.room("boxes 5;swap 3 4;");
        // A ring of two and three of one: to join them makes a ring of three.
        Check.tells("38 enemy joins", x, r -> r.third(1), 3);
        Check.bad("38 third(2)", x, r -> r.third(2));
        Check.bad("38 third(-1)", x, r -> r.third(-1));
    }

    private static void p39Laid() {
        BoxRings x = Check.room("boxes 2;");
        // 12345 by 65536 is 0: BOX 1 swaps with BOX 0.
        Check.tells("39 seed 0 of two", x, r -> r.laid(0), 1);
        // 1103515245 and 12345 is 1103527590; by 65536 it is 16838; even: 0.
        Check.tells("39 seed 1 of two", x, r -> r.laid(1), 1);
        // 2 times it and 12345: 2207042835, less 2147483648 is 59559187; by 65536 it is 908: 0.
        Check.tells("39 seed 2 of two", x, r -> r.laid(2), 1);
        // 3 times it and 12345: 3310558080, less 2147483648 is 1163074432; by 65536 it is 17747: 1.
        Check.tells("39 seed 3 of two", x, r -> r.laid(3), 0);
        x = Check.room("boxes 3;swap 0 2;");
        // Seed 1: 16838 by 3 leaves 2; 1103527590 becomes 377401575, by 65536 5758: 0: 1 0 2.
        Check.tells("39 seed 1 of three", x, r -> r.laid(1), 2);
        Check.bad("39 seed 1000000", x, r -> r.laid(1000000));
        Check.bad("39 seed -1", x, r -> r.laid(-1));
        x = Check.room("boxes 7;");
        Check.tells("39 of seven", x, r -> r.laid(7), 62);
        Check.tells("39 the last seed", x, r -> r.laid(999999), 495);
    }

    private static void p40Lucky() {
        BoxRings x = Check.room("boxes 2;leave 1;");
        // Of the seeds 0 to 3 only 3 lays 0 1.
        Check.tells("40 three of two", x, r -> r.lucky(0, 3), 0);
        Check.tells("40 four of two", x, r -> r.lucky(0, 4), 1);
        Check.tells("40 from 3 on", x, r -> r.lucky(3, 1), 1);
        Check.tells("40 none of them", x, r -> r.lucky(3, 0), 0);
        x.put(0, 2);
        Check.tells("40 all", x, r -> r.lucky(0, 60), 60);
        Check.tells("40 from the last seed on", x, r -> r.lucky(999999, 60), 60);
        Check.bad("40 y 61", x, r -> r.lucky(0, 61));
        Check.bad("40 y -1", x, r -> r.lucky(0, -1));
        Check.bad("40 seed -1", x, r -> r.lucky(-1, 1));
        Check.bad("40 seed 1000000", x, r -> r.lucky(1000000, 0));
        x = Check.room("boxes 7;leave 3;");
        int lucky = 0;
        for (int seed = 500; seed < 560; seed++) {
            x.lay(x.laid(seed));
            lucky += x.finds() == 127 ? 1 : 0;
        }
        Check.due("40 as they are laid", x.lucky(500, 60), lucky);
    }
}
