/** The sentences of the terms that name a boundary case, and of the promises what stands in no other test. */
public final class EdgesTest {
    public static void main(String[] args) {
        boxesAsManyAsThereAre();
        boxesLeaveTextImagesAndStatus();
        leaveUpToAll();
        turnedBehindTheLastOne();
        strideNextOneBehindThatWasNotOpened();
        rulesOfTwoBoxes();
        evenOnesThenTheOthers();
        foundAtTheLastThatMayBeOpened();
        oneRingAndAsManyRingsAsBoxes();
        workedAsOftenAsBack();
        knownUpToAll();
        reportsUpToEight();
        mayBeRising();
        reportsByWhatIsSoNow();
        movesUpToFour();
        makesUpToTenThatMayBeUndone();
        undoBringsTheWayAlone();
        undoneOnesGo();
        refusedOnesAreNotUndone();
        textUpTo150Bytes();
        fractionOfThreeCallsAlone();
        fractionOfNought();
        likeOnes();
        theLastWayAndTheFirst();
        noneAtAll();
        seedsThatWrapAround();
        imagesAreApart();
        imagesLeaveWhatTheyDoNotKeep();
        imagesOfAnotherSize();
        statusOfMany();
        Check.end();
    }

    private static BoxRings laid(int n, int... slips) {
        BoxRings x = new BoxRings();
        x.boxes(n);
        int rank = 0;
        for (int b = 0; b < n; b++) {
            int lesser = 0;
            for (int c = b + 1; c < n; c++) {
                lesser += slips[c] < slips[b] ? 1 : 0;
            }
            rank = rank * (n - b) + lesser;
        }
        x.lay(rank);
        for (int b = 0; b < n; b++) {
            Check.due("slip(" + b + ") as a test lays it", x.slip(b), slips[b]);
        }
        return x;
    }

    private static void opens(BoxRings x, int seeker, int... boxes) {
        Check.due("opened(" + seeker + ", -1)", x.opened(seeker, -1), boxes.length);
        for (int i = 0; i < boxes.length; i++) {
            Check.due("opened(" + seeker + ", " + i + ")", x.opened(seeker, i), boxes[i]);
        }
        Check.due("opened(" + seeker + ", " + boxes.length + ")", x.opened(seeker, boxes.length), -5);
    }

    private static BoxRings allBy(BoxRings x, int leave, int turn, int rule) {
        x.put(0, leave);
        x.put(1, turn);
        for (int s = 0; s < x.count(0); s++) {
            x.rule(s, rule);
        }
        return x;
    }

    // ---- a room

    private static void boxesAsManyAsThereAre() {
        BoxRings x = allBy(laid(5, 1, 0, 2, 4, 3), 4, 3, 2);
        x.know(0, 0);
        x.report(0, 0);
        x.move(3);
        Check.due("boxes(5) of 5", x.boxes(5), 5);
        int[] first = {5, 2, 1, 0, 0, 0, 0, 0};
        for (int what = 0; what < first.length; what++) {
            Check.due("boxes(5) of 5, count(" + what + ")", x.count(what), first[what]);
        }
        Check.due("boxes(5) of 5, rank()", x.rank(), 0);
        Check.due("boxes(5) of 5, rule", x.rule(4, 1), 0);
        Check.due("boxes(5) of 5, nothing KNOWN", x.know(0, 1), 1);
        Check.no("boxes(5) of 5, nothing to undo", x, r -> r.undo());
        Check.bad("boxes(5) of 5, no MOVES", x, r -> r.make(0));
    }

    private static void boxesLeaveTextImagesAndStatus() {
        BoxRings x = laid(4, 1, 0, 2, 3);
        x.image(1);
        Check.typed(x, "boxes 6;");
        x.slip(9);
        x.undo();
        x.undo();
        x.chance(1);
        x.boxes(2);
        Check.due("boxes leave STATUS, BAD", x.status(0), 1);
        Check.due("boxes leave STATUS, NO", x.status(1), 1);
        Check.fraction("boxes leave THE FRACTION", x, 1, 2);
        Check.due("boxes leave THE TEXT", x.read(), 1);
        Check.due("boxes leave THE TEXT", x.count(0), 6);
        Check.due("boxes leave IMAGES", x.from(1), 1);
        Check.due("boxes leave IMAGES", x.rank(), 6);
        Check.no("boxes make no IMAGE", x, r -> r.from(0));
    }

    private static void leaveUpToAll() {
        for (int n = 2; n <= 7; n++) {
            BoxRings x = new BoxRings();
            x.boxes(n);
            Check.due("LEAVE at first", x.put(0, n), 2);
            Check.due("LEAVE of all", x.put(0, 1), n);
            Check.due("LEAVE of one", x.put(0, n), 1);
            int most = n + 1;
            Check.bad("LEAVE beyond all", x, r -> r.put(0, most));
            Check.due("LEAVE stays", x.count(1), n);
        }
    }

    private static void knownUpToAll() {
        BoxRings x = new BoxRings();
        x.boxes(3);
        x.know(0, 1);
        x.know(1, 2);
        x.know(2, 0);
        Check.due("all KNOWN", x.count(3), 3);
        Check.due("one WAY", x.mayBe(0), 3);
        Check.no("a BOX and a SLIP that are KNOWN", x, r -> r.know(1, 1));
        Check.no("what is KNOWN, once more", x, r -> r.know(2, 0));
        Check.due("forget", x.forget(0), 3);
        Check.due("know another", x.know(2, 2), 1);
        Check.due("know the last BOX and SLIP, forgotten ones do not stand against it", x.know(1, 0), 1);
        for (int n = 2; n <= 7; n++) {
            x = new BoxRings();
            x.boxes(n);
            Check.due("know a SLIP of the last BOX", x.know(n - 1, 0), 1);
            Check.no("the SLIP is KNOWN, of the last BOX", x, r -> r.know(0, 0));
            Check.due("know the BOX ahead of it", x.know(n - 2, n - 1), 1);
            Check.due("a TEXT that says so", Check.readOf(x, "boxes " + n + ";known " + (n - 1) + " 0;known 0 0;"), -10 - 26);
        }
    }

    private static void reportsUpToEight() {
        BoxRings x = new BoxRings();
        for (int i = 0; i < 8; i++) {
            Check.due("report", x.report(0, 0), i);
        }
        Check.full("a 9th report", x, r -> r.report(4, 5));
        x.forget(1);
        Check.due("they begin by 0 again", x.report(1, 1), 0);
    }

    private static void movesUpToFour() {
        BoxRings x = new BoxRings();
        for (int m = 0; m < 4; m++) {
            Check.due("move", x.move(0), m);
        }
        Check.full("a 5th move", x, r -> r.move(119));
        Check.due("drop", x.drop(), 3);
        Check.bad("what is dropped is no move", x, r -> r.make(3));
        Check.due("move in its place", x.move(119), 3);
        Check.due("it is another", x.make(3), 119);
        x = new BoxRings();
        x.move(1);
        Check.due("GROUP of one MOVE", x.group(), 2);
        x.drop();
        Check.due("GROUP of none, from the same WAY", x.group(), 1);
        Check.due("FEWEST of none, from the same WAY", x.fewest(1, -1), -1);
        x.boxes(7);
        Check.due("GROUP of none, from the WAY of the same RANK", x.group(), 1);
    }

    private static void textUpTo150Bytes() {
        BoxRings x = new BoxRings();
        for (int i = 1; i <= 150; i++) {
            Check.due("type", x.type(' '), i);
        }
        Check.full("a 151st byte", x, r -> r.type(' '));
        Check.due("blanks alone end too early", x.read(), -10 - 150);
        Check.due("clear", x.clear(), 150);
        Check.due("an empty TEXT has nothing to clear", x.clear(), 0);
        Check.due("an empty TEXT ends too early", x.read(), -10);
        Check.due("type behind clear", x.type(127), 1);
        Check.due("the first byte begins none", x.read(), -10);
    }

    // ---- seekers

    private static void turnedBehindTheLastOne() {
        // SLIPS 2 3 4 0 1, TURN 4 of 5: SEEKER 2 looks into BOX 1 (SLIP 3), 2 (4), 3 (0), 4 (1), 0 (2).
        BoxRings x = allBy(laid(5, 2, 3, 4, 0, 1), 5, 4, 4);
        opens(x, 2, 1, 2, 3, 4, 0);
        // SLIPS 2 3 0 1, TURN 2 of 4: each has his SLIP in the first BOX that he opens.
        x = allBy(laid(4, 2, 3, 0, 1), 4, 2, 4);
        opens(x, 0, 2);
        opens(x, 3, 1);
        // TURN 0, and TURN 4 of 4, are as RING.
        x = allBy(laid(4, 3, 2, 1, 0), 4, 0, 4);
        opens(x, 0, 0, 3);
        x.put(1, 4);
        opens(x, 0, 0, 3);
        // SLIPS as at first, TURN 1: SEEKER 3 looks behind the last one, into BOX 0, then 1, 2, 3.
        x = allBy(laid(4, 0, 1, 2, 3), 4, 1, 4);
        opens(x, 3, 0, 1, 2, 3);
        // SLIPS 3 5 4 0 1 2, TURN 3 of 6: SEEKER 4 looks into BOX 1 (SLIP 5), then 5 + 3, that is 2.
        x = allBy(laid(6, 3, 5, 4, 0, 1, 2), 6, 3, 4);
        opens(x, 2, 5);
        opens(x, 4, 1, 2);
        // SLIPS 1 0 5 3 4 2, TURN 5 of 6: each time the BOX ahead of the number.
        x = allBy(laid(6, 1, 0, 5, 3, 4, 2), 6, 5, 4);
        opens(x, 5, 4, 3, 2);
        // SLIPS 3 0 2 4 1, TURN 2 of 5: SEEKER 0 looks into BOX 2 (SLIP 2), 4 (1), 3 (4), 1 (0).
        x = allBy(laid(5, 3, 0, 2, 4, 1), 5, 2, 4);
        opens(x, 0, 2, 4, 3, 1);
        opens(x, 1, 3, 1, 2, 4);
        // TURN 5 of 3 is 2, of 2 is 1.
        x = allBy(laid(3, 0, 1, 2), 3, 5, 4);
        opens(x, 0, 2, 1, 0);
        x = allBy(laid(2, 0, 1), 2, 5, 4);
        opens(x, 1, 0, 1);
    }

    private static void strideNextOneBehindThatWasNotOpened() {
        opens(allBy(laid(7, 0, 1, 2, 3, 4, 5, 6), 7, 4, 5), 3, 0, 4, 1, 5, 2, 6, 3);
        // STRIDE 3 of 6: 0, 3, then 0 was opened: 1; 4; then 1 was: 2; 5.
        opens(allBy(laid(6, 0, 1, 2, 3, 4, 5), 6, 3, 5), 5, 0, 3, 1, 4, 2, 5);
        // Less one than there are BOXES: backward.
        opens(allBy(laid(5, 0, 1, 2, 3, 4), 5, 4, 5), 1, 0, 4, 3, 2, 1);
        opens(allBy(laid(6, 0, 1, 2, 3, 4, 5), 6, 5, 5), 1, 0, 5, 4, 3, 2, 1);
        // STRIDE 2 of 4: 0, 2, then 0 was opened: 1; 3. STRIDE 4 of 6: 0, 4, 2, then 0 was opened: 1; 5; 3.
        opens(allBy(laid(4, 0, 1, 2, 3), 4, 2, 5), 3, 0, 2, 1, 3);
        opens(allBy(laid(6, 0, 1, 2, 3, 4, 5), 6, 4, 5), 3, 0, 4, 2, 1, 5, 3);
        // STRIDE 6 of 4 is 2, of 3 is none: the BOX opened last was opened, so the next one; 3 of 2 is 1.
        opens(allBy(laid(4, 0, 1, 2, 3), 4, 6, 5), 3, 0, 2, 1, 3);
        opens(allBy(laid(3, 0, 1, 2), 3, 6, 5), 2, 0, 1, 2);
        opens(allBy(laid(2, 0, 1), 2, 3, 5), 1, 0, 1);
        // STRIDE 0 is 1, for any number of BOXES.
        opens(allBy(laid(2, 0, 1), 2, 0, 5), 1, 0, 1);
        opens(allBy(laid(6, 0, 1, 2, 3, 4, 5), 6, 0, 5), 5, 0, 1, 2, 3, 4, 5);
    }

    private static void rulesOfTwoBoxes() {
        for (int rule = 0; rule < 6; rule++) {
            for (int turn = 0; turn <= 6; turn++) {
                BoxRings x = allBy(laid(2, 0, 1), 2, turn, rule);
                boolean other = rule == 2 || rule == 4 && turn % 2 == 1;
                boolean own = rule == 0 || rule == 4 && turn % 2 == 0;
                if (other) {
                    opens(x, 0, 1, 0);
                } else {
                    opens(x, 0, 0);
                }
                if (rule == 4 && other || !other && !own) {
                    opens(x, 1, 0, 1);
                } else {
                    opens(x, 1, 1);
                }
            }
        }
    }

    private static void evenOnesThenTheOthers() {
        opens(allBy(laid(3, 0, 2, 1), 3, 1, 3), 2, 0, 2, 1);
        opens(allBy(laid(3, 0, 2, 1), 3, 1, 3), 1, 0, 2);
        opens(allBy(laid(4, 0, 1, 2, 3), 4, 1, 3), 3, 0, 2, 1, 3);
        opens(allBy(laid(5, 0, 1, 2, 3, 4), 5, 1, 3), 3, 0, 2, 4, 1, 3);
        opens(allBy(laid(5, 0, 1, 2, 3, 4), 3, 1, 3), 3, 0, 2, 4);
        opens(allBy(laid(3, 0, 1, 2), 3, 1, 2), 0, 2, 1, 0);
        opens(allBy(laid(4, 0, 1, 2, 3), 3, 1, 2), 0, 3, 2, 1);
    }

    private static void foundAtTheLastThatMayBeOpened() {
        for (int leave = 1; leave <= 7; leave++) {
            BoxRings x = allBy(laid(7, 0, 1, 2, 3, 4, 5, 6), leave, 1, 1);
            Check.due("FINDS in a row with LEAVE " + leave, x.finds(), (1 << leave) - 1);
            Check.due("opens all he may", x.opened(6, -1), leave);
            Check.due("the last he opens", x.opened(6, leave - 1), leave - 1);
            Check.due("no more", x.opened(6, leave), -5);
            x = allBy(laid(7, 0, 1, 2, 3, 4, 5, 6), leave, 1, 2);
            Check.due("FINDS from behind with LEAVE " + leave, x.finds(), 128 - (1 << 7 - leave));
            x = allBy(laid(7, 1, 2, 3, 4, 5, 6, 0), leave, 1, 0);
            Check.due("FINDS in a ring of seven with LEAVE " + leave, x.finds(), leave == 7 ? 127 : 0);
        }
    }

    // ---- as it lies

    private static void oneRingAndAsManyRingsAsBoxes() {
        for (int n = 2; n <= 7; n++) {
            BoxRings x = new BoxRings();
            x.boxes(n);
            Check.due("as many RINGS as BOXES", x.rings(-1), n);
            Check.due("of one BOX each", x.rings(n - 1), 1);
            for (int b = 0; b + 1 < n; b++) {
                x.swap(b, b + 1);
            }
            Check.due("one RING", x.rings(-1), 1);
            Check.due("of all BOXES", x.rings(0), n);
            Check.due("of all BOXES", x.rings(n - 1), n);
            Check.due("BACK of one RING", x.back(), n);
            Check.due("GOES WITH its own powers alone", x.goesWith(), n);
            Check.due("EVEN, by as many SWAPS as were made", x.even(), n % 2);
            Check.due("a RING of all is ALIKE to what undoes it", x.alike(x.undoes()), 1);
            Check.due("and not to the WAY of first", x.alike(0), 0);
        }
    }

    private static void workedAsOftenAsBack() {
        BoxRings x = laid(7, 1, 2, 3, 0, 5, 6, 4);
        Check.due("BACK of RINGS of 4 and 3", x.back(), 12);
        Check.due("WORKED so often", x.worked(12), 0);
        Check.due("WORKED once less", x.worked(11), x.undoes());
        Check.due("WORKED once more", x.worked(13), x.rank());
        Check.due("WORKED 0 times", x.worked(0), 0);
        Check.due("WORKED 99 times is 3 times", x.worked(99), x.worked(3));
        Check.due("WORKED 96 times", x.worked(96), 0);
        x = laid(7, 1, 2, 3, 4, 0, 6, 5);
        Check.due("BACK of RINGS of 5 and 2", x.back(), 10);
        x = laid(7, 0, 1, 2, 3, 4, 5, 6);
        Check.due("BACK of the WAY of first is above 0", x.back(), 1);
        Check.due("its ROOTS by 7: RINGS of seven and itself", x.roots(7), 721);
        Check.due("its ROOTS by 8: RINGS of 1, 2, 4", x.roots(8), 1072);
        Check.due("its ROOTS by 2: RINGS of 1, 2", x.roots(2), 232);
        Check.due("its ROOTS by 9: RINGS of 1, 3", x.roots(9), 351);
    }

    // ---- undo

    private static void makesUpToTenThatMayBeUndone() {
        BoxRings x = new BoxRings();
        x.boxes(6);
        x.move(1);
        for (int i = 1; i <= 12; i++) {
            if (i % 3 == 0) {
                x.make(0);
            } else if (i % 3 == 1) {
                x.swap(0, i % 5 + 1);
            } else {
                x.lay(i * 50);
            }
            Check.due("may be undone", x.count(5), Math.min(i, 10));
        }
        for (int i = 9; i >= 0; i--) {
            Check.due("undo", x.undo(), 1);
            Check.due("may be undone", x.count(5), i);
        }
        Check.due("the WAY ahead of the last ten", x.rank(), 100);
        Check.no("no eleventh", x, r -> r.undo());
    }

    private static void undoBringsTheWayAlone() {
        BoxRings x = new BoxRings();
        x.swap(0, 1);
        x.put(0, 4);
        x.put(1, 5);
        x.rule(2, 3);
        x.know(1, 1);
        x.report(3, 2);
        x.move(7);
        x.type('b');
        x.chance(0);
        x.undo();
        Check.due("the WAY", x.rank(), 0);
        int[] stay = {5, 4, 5, 1, 1, 0, 1, 1};
        for (int what = 0; what < stay.length; what++) {
            Check.due("undo, count(" + what + ")", x.count(what), stay[what]);
        }
        Check.due("RULES stay", x.rule(2, 3), 3);
        Check.fraction("THE FRACTION stays", x, 1, 1);
    }

    private static void undoneOnesGo() {
        BoxRings x = new BoxRings();
        x.lay(5);
        x.lay(9);
        x.undo();
        x.lay(17);
        x.undo();
        Check.due("not what was undone ahead", x.rank(), 5);
        x.undo();
        Check.due("the first", x.rank(), 0);
        Check.no("no more", x, r -> r.undo());
    }

    private static void refusedOnesAreNotUndone() {
        BoxRings x = new BoxRings();
        x.swap(1, 1);
        x.swap(0, 5);
        x.lay(120);
        x.make(0);
        Check.due("nothing may be undone", x.count(5), 0);
        x.know(0, 0);
        x.put(0, 1);
        x.rule(0, 1);
        x.move(1);
        x.image(0);
        x.worked(3);
        x.laid(3);
        x.mended();
        x.third(0);
        Check.due("no other call may be undone", x.count(5), 0);
    }

    // ---- what may be

    private static void mayBeRising() {
        BoxRings x = new BoxRings();
        x.boxes(4);
        x.know(1, 2);
        // 0 2 1 3, 0 2 3 1, 1 2 0 3, 1 2 3 0, 3 2 0 1, 3 2 1 0.
        int[] ranks = {2, 3, 8, 9, 22, 23};
        Check.tells("how many MAY BE", x, r -> r.mayBe(-1), ranks.length);
        for (int i = 0; i < ranks.length; i++) {
            int at = i;
            Check.tells("MAY BE, rising", x, r -> r.mayBe(at), ranks[at]);
        }
        Check.tells("not so many MAY BE", x, r -> r.mayBe(6), -5);
        x.report(1, 0);
        // SEEKER 1 MISSED: in 0 2 1 3 and 3 2 1 0 he finds by the second.
        Check.tells("how many MAY BE yet", x, r -> r.mayBe(-1), 4);
        Check.tells("the first is another", x, r -> r.mayBe(0), 3);
        Check.tells("so is the last", x, r -> r.mayBe(3), 22);
        Check.tells("not so many MAY BE", x, r -> r.mayBe(4), -5);
        x.know(0, 0);
        x.report(1, 2);
        Check.tells("none MAY BE", x, r -> r.mayBe(-1), 0);
        Check.tells("not one", x, r -> r.mayBe(0), -5);
    }

    private static void reportsByWhatIsSoNow() {
        BoxRings x = new BoxRings();
        x.boxes(3);
        x.rule(0, 1);
        x.report(0, 2);
        // In a row: SLIP 0 in BOX 1.
        Check.due("by ROW", x.mayBe(0), 2);
        x.rule(0, 2);
        // From behind: in BOX 1, too; by strides of 2: in BOX 2.
        Check.due("by BACK", x.mayBe(0), 2);
        x.rule(0, 5);
        x.put(1, 2);
        Check.due("by STRIDE of 2", x.mayBe(0), 3);
        x.put(1, 1);
        Check.due("by STRIDE of 1", x.mayBe(0), 2);
        x.put(0, 1);
        Check.due("by LEAVE 1", x.mayBe(-1), 0);
        x.put(0, 3);
        Check.due("by LEAVE 3", x.mayBe(-1), 2);
        x.report(0, 3);
        Check.due("two REPORTS of one SEEKER against each other", x.mayBe(-1), 0);
        x.forget(1);
        x.report(0, 2);
        x.report(0, 2);
        Check.due("the same REPORT twice", x.mayBe(-1), 2);
    }

    private static void fractionOfThreeCallsAlone() {
        BoxRings x = laid(5, 1, 2, 0, 4, 3);
        x.chance(1);
        Check.fraction("chance", x, 2, 5);
        x.move(3);
        x.mayBe(-1);
        x.worst(0);
        x.worst(1);
        x.mended();
        x.third(0);
        x.lucky(5, 60);
        x.laid(5);
        x.group();
        x.till(-1);
        x.from(0);
        Check.fraction("no other call", x, 2, 5);
        x.look();
        Check.fraction("look", x, 24, 1);
        x.advice();
        Check.fraction("advice", x, 13, 60);
    }

    private static void fractionOfNought() {
        BoxRings x = new BoxRings();
        x.put(0, 1);
        x.know(0, 1);
        x.chance(1);
        Check.fraction("nought", x, 0, 1);
        x.chance(0);
        Check.fraction("one", x, 1, 1);
        x.advice();
        Check.fraction("by TURN 1 all might find", x, 0, 1);
    }

    private static void likeOnes() {
        BoxRings x = laid(6, 1, 0, 3, 2, 5, 4);
        x.put(0, 1);
        // Each of the pairs 0 1, 2 3, 4 5 lets two more find.
        Check.due("FRIEND, of like ones the first", x.third(0), 1);
        x = laid(6, 0, 1, 2, 3, 4, 5);
        x.put(0, 1);
        Check.due("ENEMY, of like ones the first", x.third(1), 1);
        x = laid(5, 0, 2, 1, 4, 3);
        x.put(0, 1);
        Check.due("FRIEND, the lesser BOX first", x.third(0), 12);
        Check.due("ENEMY, the lesser BOX first: 0 with any", x.third(1), 1);
        x = laid(4, 0, 1, 2, 3);
        Check.due("BEST LOOK, of like ones the least", x.look(), 0);
        Check.due("WORST, of like ones the least RANK", x.worst(0), 9);
        Check.due("how many FIND there", x.worst(1), 0);
        x.put(0, 4);
        Check.due("ADVICE, of like ones the least", x.advice(), 0);
        Check.fraction("ADVICE, all FIND by any", x, 1, 1);
        Check.due("WORST, where all FIND", x.worst(0), 0);
        Check.due("how many FIND there", x.worst(1), 4);
    }

    private static void theLastWayAndTheFirst() {
        // TURN 1 of two, LEAVE 1: each finds in the other's BOX alone.
        BoxRings x = allBy(laid(2, 0, 1), 1, 1, 4);
        Check.tells("MENDED, all FIND in the last WAY alone", x, r -> r.mended(), 1);
        Check.tells("FRIEND, of the last WAY", x, r -> r.third(0), 1);
        Check.tells("WORST, the first WAY", x, r -> r.worst(0), 0);
        x.lay(1);
        Check.tells("MENDED, it is the last WAY", x, r -> r.mended(), 0);
        Check.tells("ENEMY, to the first WAY", x, r -> r.third(1), 1);
        x.put(1, 2);
        Check.tells("MENDED, all FIND in the first WAY alone", x, r -> r.mended(), 1);
        Check.tells("WORST, the last WAY", x, r -> r.worst(0), 1);
        x.boxes(7);
        x.put(0, 7);
        Check.tells("ENEMY of seven: none, nobody can miss", x, r -> r.third(1), -1);
        Check.tells("FRIEND of seven: none, all FIND", x, r -> r.third(0), -1);
    }

    private static void noneAtAll() {
        BoxRings x = laid(3, 0, 1, 2);
        Check.tells("FRIEND: none, all FIND", x, r -> r.third(0), -1);
        x.put(0, 3);
        Check.tells("ENEMY: none, nobody can miss", x, r -> r.third(1), -1);
        Check.tells("MENDED by none", x, r -> r.mended(), 0);
        x = allBy(laid(3, 2, 1, 0), 2, 1, 1);
        Check.tells("MENDED: none", x, r -> r.mended(), -1);
        Check.tells("FRIEND: none, always two FIND", x, r -> r.third(0), -1);
        Check.tells("ENEMY: none, always two FIND", x, r -> r.third(1), -1);
        x.move(1);
        x.move(2);
        Check.tells("till all FIND: none", x, r -> r.till(-1), -1);
        Check.tells("till all FIND: none", x, r -> r.till(0), -1);
        Check.tells("FEWEST MOVES: all can be come to", x, r -> r.fewest(0, -1), 3);
        x.drop();
        Check.tells("FEWEST MOVES: none", x, r -> r.fewest(0, -1), -1);
        Check.tells("FEWEST MOVES: none", x, r -> r.fewest(0, 7), -1);
        x.know(0, 0);
        x.know(1, 1);
        x.know(2, 2);
        Check.tells("BEST LOOK: none", x, r -> r.look(), -1);
        // One SWAP and a RING of seven lead to all 5040 WAYS; in a row, with LEAVE 6, one SEEKER misses in each.
        x = allBy(laid(7, 0, 1, 2, 3, 4, 5, 6), 6, 1, 1);
        x.move(1);
        x.move(873);
        Check.tells("GROUP: all WAYS", x, r -> r.group(), 5040);
        Check.tells("till all FIND: none of all WAYS", x, r -> r.till(-1), -1);
        Check.tells("till all FIND: none of all WAYS", x, r -> r.till(0), -1);
        x.put(0, 7);
        Check.tells("till all FIND: they do", x, r -> r.till(-1), 0);
    }

    private static void seedsThatWrapAround() {
        BoxRings x = new BoxRings();
        x.boxes(7);
        for (int seed : new int[] {0, 1, 2, 65535, 65536, 123456, 999998, 999999}) {
            Check.tells("laid(" + seed + ")", x, r -> r.laid(seed), laidByHand(7, seed));
        }
        x.put(0, 3);
        int times = 0;
        for (int seed = 999990; seed < 1000050; seed++) {
            BoxRings y = new BoxRings();
            y.boxes(7);
            y.put(0, 3);
            y.lay(laidByHand(7, seed));
            times += y.finds() == 127 ? 1 : 0;
        }
        Check.tells("lucky, beyond the last seed", x, r -> r.lucky(999990, 60), times);
        Check.tells("lucky, of none", x, r -> r.lucky(999999, 0), 0);
    }

    private static int laidByHand(int n, long seed) {
        BoxRings x = new BoxRings();
        x.boxes(n);
        long left = seed;
        for (int b = n - 1; b >= 1; b--) {
            left = (left * 1103515245L + 12345L) & 0x7fffffffL;
            int other = (int) ((left >> 16) % (b + 1));
            if (other != b) {
                x.swap(b, other);
            }
        }
        return x.rank();
    }

    // ---- what there is

    private static void imagesAreApart() {
        BoxRings x = new BoxRings();
        x.image(0);
        x.put(0, 3);
        x.rule(1, 4);
        x.know(2, 2);
        x.report(4, 1);
        x.move(99);
        x.swap(3, 4);
        x.image(1);
        long changed = x.digest();
        x.from(0);
        int[] first = {5, 2, 1, 0, 0, 0, 0, 0};
        for (int what = 0; what < first.length; what++) {
            Check.due("IMAGE 0, count(" + what + ")", x.count(what), first[what]);
        }
        Check.due("IMAGE 0, RULE", x.rule(1, 2), 0);
        x.know(2, 1);
        x.from(1);
        Check.due("IMAGE 1 is as it was kept", x.digest(), changed);
        x.undo();
        x.from(1);
        Check.due("what may be undone in IMAGE 1 stays", x.count(5), 1);
        x.from(0);
        Check.due("IMAGE 0 is as it was kept, RULE", x.rule(1, 0), 0);
        Check.due("IMAGE 0 is as it was kept, KNOWN", x.count(3), 0);
        x.image(1);
        x.from(1);
        Check.due("an IMAGE takes the other's place", x.count(7), 0);
    }

    private static void imagesLeaveWhatTheyDoNotKeep() {
        BoxRings x = new BoxRings();
        x.image(0);
        x.slip(5);
        x.slip(5);
        x.undo();
        for (int i = 0; i < 5; i++) {
            x.move(0);
        }
        x.image(1);
        Check.typed(x, "boxes 6;");
        x.chance(1);
        for (int image = 0; image < 2; image++) {
            x.from(image);
            Check.due("it goes on from an IMAGE, BAD stays", x.status(0), 2);
            Check.due("it goes on from an IMAGE, NO stays", x.status(1), 1);
            Check.due("it goes on from an IMAGE, FULL stays", x.status(2), 1);
            Check.fraction("it goes on from an IMAGE, THE FRACTION stays", x, 2, 5);
            Check.due("it goes on from an IMAGE, THE TEXT stays", x.count(6), 8);
            x.image(image);
        }
        Check.due("THE TEXT is as it was", x.read(), 1);
        Check.due("a ROOM that is read leaves IMAGES", x.from(0), 1);
        Check.due("a ROOM that is read leaves IMAGES", x.count(0), 5);
        Check.due("and STATUS", x.status(0) + x.status(1) + x.status(2), 4);
    }

    private static void imagesOfAnotherSize() {
        BoxRings x = laid(7, 6, 5, 4, 3, 2, 1, 0);
        x.put(0, 7);
        x.know(6, 6);
        x.image(0);
        x.boxes(2);
        Check.bad("of two", x, r -> r.slip(2));
        Check.bad("of two", x, r -> r.put(0, 3));
        x.group();
        x.from(0);
        Check.due("of seven", x.slip(6), 0);
        Check.due("of seven, LEAVE", x.count(1), 7);
        Check.due("of seven, KNOWN", x.mayBe(-1), 720);
        Check.due("of seven, GROUP", x.group(), 1);
        Check.due("of seven, undone", x.undo(), 1);
        Check.due("of seven, undone", x.rank(), 0);
    }

    private static void statusOfMany() {
        BoxRings x = new BoxRings();
        for (int i = 0; i < 4; i++) {
            x.move(0);
        }
        for (int i = 1; i <= 100; i++) {
            x.slip(5);
            x.undo();
            x.move(i);
            x.status(3);
        }
        Check.due("BAD", x.status(0), 200);
        Check.due("NO", x.status(1), 100);
        Check.due("FULL", x.status(2), 100);
    }
}
