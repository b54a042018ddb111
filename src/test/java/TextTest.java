/** THE TEXT and its FAULTS, sentence by sentence, and what a ROOM that is read takes the place of. */
public final class TextTest {
    private static final String EIGHT = "found 0 1;missed 1;found 2 3;missed 0;missed 1;missed 2;found 0 2;found 0 3;";
    private static final String[] WORDS = {"boxes", "leave", "turn", "rule", "swap", "found", "missed", "known", "move"};

    public static void main(String[] args) {
        bytesOfTheText();
        boxesFirstOfAll();
        boxesOnce();
        leastAndGreatestNumbers();
        numbersBeyondThem();
        leaveMoreThanN();
        oneToFourFiguresAreOneNumber();
        fiveFiguresOrMore();
        blanksAnyNumber();
        blanksNeededBetweenTwoWordsAndTwoNumbers();
        otherBytesThanBlanks();
        wordsThatAreNone();
        bytesThatBeginNone();
        tokensOutOfTheirPlace();
        tooManyReports();
        tooManyMoves();
        alikeAndKnownAlready();
        endsTooEarly();
        theFirstOfTwoFaults();
        afterAFaultAllStays();
        takesThePlaceOfAll();
        takesThePlaceOfAllBut();
        readsAgain();
        Check.end();
    }

    private static void reads(String text, int items) {
        Check.due("read of '" + text + "'", Check.readOf(new BoxRings(), text), items);
    }

    private static void faults(String text, int at) {
        BoxRings x = new BoxRings();
        Check.typed(x, text);
        Check.tells("read of '" + text + "'", x, r -> r.read(), -10 - at);
    }

    private static void counts(String text, int what, int due) {
        Check.due("'" + text + "', count(" + what + ")", Check.room(text).count(what), due);
    }

    // ---- how long it is

    private static void bytesOfTheText() {
        reads("boxes 4;" + " ".repeat(142), 1);
        reads(" ".repeat(142) + "boxes 4;", 1);
        reads("boxes 4;" + " ".repeat(134) + "leave 3;", 2);
        faults("boxes 4;" + " ".repeat(135) + "leave 3", 150);
        faults(" ".repeat(150), 150);
        faults(" ".repeat(149) + "b", 149);
        faults("boxes 4;" + " ".repeat(141) + "?", 149);
        faults(";".repeat(150), 0);
        faults("b".repeat(150), 0);
        faults("1".repeat(150), 0);
        BoxRings x = new BoxRings();
        Check.typed(x, "boxes 4;" + " ".repeat(135) + "leave 3;");
        Check.due("a 151st byte does not come behind it", x.count(6), 150);
        Check.due("THE TEXT ends ahead of what was refused", x.read(), -10 - 150);
        String swaps = "swap0 1;".repeat(17);
        Check.due("many items", Check.readOf(x, "boxes 2;" + swaps), 18);
        Check.due("an odd number of swaps", x.rank(), 1);
    }

    // ---- boxes n (once, first of all)

    private static void boxesFirstOfAll() {
        for (int i = 1; i < WORDS.length; i++) {
            faults(WORDS[i] + " 0 1;boxes 3;", 0);
            faults("  " + WORDS[i], 2);
        }
        faults(";boxes 3;", 0);
        faults("3 boxes 3;", 0);
        faults("0;", 0);
    }

    private static void boxesOnce() {
        faults("boxes 3;boxes 3;", 8);
        faults("boxes 3;leave 1; boxes 4;", 17);
        faults("boxes 3; boxes", 9);
        faults("boxes 3;boxes 9;", 8);
        faults("boxes boxes 3;", 6);
    }

    // ---- numbers as told

    private static void leastAndGreatestNumbers() {
        for (int n = 2; n <= 7; n++) {
            String boxes = "boxes " + n + ";";
            counts(boxes, 0, n);
            counts(boxes + "leave 1;", 1, 1);
            counts(boxes + "leave " + n + ";", 1, n);
            counts(boxes + "turn 0;", 2, 0);
            counts(boxes + "turn 6;", 2, 6);
            reads(boxes + "rule 0 0;rule " + (n - 1) + " 5;", 3);
            reads(boxes + "swap 0 " + (n - 1) + ";swap " + (n - 1) + " 0;", 3);
            reads(boxes + "found 0 1;found " + (n - 1) + " " + n + ";", 3);
            reads(boxes + "missed 0;missed " + (n - 1) + ";", 3);
            reads(boxes + "known 0 " + (n - 1) + ";known " + (n - 1) + " 0;", 3);
            reads(boxes + "move 0;move " + (Twins.waysOf(n) - 1) + ";", 3);
        }
    }

    private static void numbersBeyondThem() {
        faults("boxes 0;", 6);
        faults("boxes 1;", 6);
        faults("boxes 8;", 6);
        faults("boxes 9999;", 6);
        for (int n = 2; n <= 7; n++) {
            String boxes = "boxes " + n + ";";
            faults(boxes + "leave 0;", 14);
            faults(boxes + "turn 7;", 13);
            faults(boxes + "turn 9999;", 13);
            faults(boxes + "rule " + n + " 0;", 13);
            faults(boxes + "rule " + (n - 1) + " 6;", 15);
            faults(boxes + "swap " + n + " 0;", 13);
            faults(boxes + "swap 0 " + n + ";", 15);
            faults(boxes + "found " + n + " 1;", 14);
            faults(boxes + "found 0 0;", 16);
            faults(boxes + "found 0 " + (n + 1) + ";", 16);
            faults(boxes + "missed " + n + ";", 15);
            faults(boxes + "known " + n + " 0;", 14);
            faults(boxes + "known 0 " + n + ";", 16);
            faults(boxes + "move " + Twins.waysOf(n) + ";", 13);
            faults(boxes + "move 9999;", 13);
        }
    }

    private static void leaveMoreThanN() {
        for (int n = 2; n <= 7; n++) {
            counts("boxes " + n + ";leave " + (n + 1) + ";", 1, n);
            counts("boxes " + n + ";leave 9999;", 1, n);
        }
        counts("boxes 3;leave 7;leave 2;", 1, 2);
    }

    private static void oneToFourFiguresAreOneNumber() {
        counts("boxes 7;", 0, 7);
        counts("boxes 07;", 0, 7);
        counts("boxes 007;", 0, 7);
        counts("boxes 0007;", 0, 7);
        reads("boxes 0006;rule 0005 0004;swap 00 05;found 003 0006;known 01 002;missed 0000;turn 06;leave 0006;", 8);
        int[] ranks = {9, 10, 99, 100, 719, 720, 999, 1000, 5039};
        for (int rank : ranks) {
            BoxRings x = Check.room("boxes 7;move " + rank + ";");
            Check.due("move " + rank, x.make(0), madeFromFirst(rank));
        }
    }

    // From the WAY of first a MOVE makes the WAY that it undoes: the SLIP b goes to the BOX of its number.
    private static int madeFromFirst(int rank) {
        BoxRings x = new BoxRings();
        x.boxes(7);
        x.lay(rank);
        return x.undoes();
    }

    private static void fiveFiguresOrMore() {
        faults("00003;", 0);
        faults("boxes 00003;", 6);
        faults("boxes 3 00003;", 8);
        faults("boxes 3;00003;", 8);
        faults("boxes 3;leave 00002;", 14);
        faults("boxes 3;swap 0 00001;", 15);
        faults("boxes 3;move 00000", 13);
        faults("boxes 7;move 50390;", 13);
        faults("boxes 3;turn 65537;", 13);
        faults("boxes 3;turn 4294967297;", 13);
        faults("boxes 3;turn 18446744073709551617;", 13);
        faults("boxes 3;turn 1 12345678901234567890;", 15);
        faults("boxes 3;turn 00001x;", 13);
    }

    // ---- blanks and other bytes

    private static void blanksAnyNumber() {
        String[] tokens = {"boxes", "4", ";", "swap", "0", "3", ";", "known", "1", "2", ";", "move", "23", ";"};
        for (int blanks = 1; blanks <= 6; blanks++) {
            StringBuilder text = new StringBuilder();
            for (String token : tokens) {
                text.append(" ".repeat(blanks)).append(token);
            }
            reads(text.toString(), 4);
            reads(text + " ".repeat(blanks), 4);
        }
    }

    private static void blanksNeededBetweenTwoWordsAndTwoNumbers() {
        reads("boxes4;leave3;turn2;rule3 5;swap0 3;found1 4;missed2;known1 2;move23;", 9);
        faults("boxesleave 3;", 0);
        faults("boxes 4;leaveturn 3;", 8);
        faults("boxes 4;swap 03;", 15);
        faults("boxes 4;found 1 4known 0 1;", 17);
        faults("boxes 4leave 3;", 7);
        faults("boxes 4 leave 3;", 8);
        faults("boxes 4;rule 3 5 5;", 17);
        faults("bo xes 4;", 0);
        faults("boxes 4;mo ve 3;", 8);
        faults("boxes 7;move 50 39;", 16);
    }

    private static void otherBytesThanBlanks() {
        for (int c = 0; c < 32; c++) {
            faults("boxes 4;" + (char) c, 8);
            faults("boxes" + (char) c + "4;", 5);
            faults((char) c + "boxes 4;", 0);
        }
    }

    // ---- what is no TOKEN that can stand there

    private static void wordsThatAreNone() {
        for (int i = 0; i < WORDS.length; i++) {
            String word = WORDS[i];
            String ahead = i == 0 ? "" : "boxes 4;";
            faults(ahead + word + "s 3 1;", ahead.length());
            faults(ahead + "a" + word + " 3 1;", ahead.length());
            faults(ahead + word.substring(1) + " 3 1;", ahead.length());
            faults(ahead + word.substring(0, word.length() - 1) + " 3 1;", ahead.length());
            faults(ahead + word.substring(0, 1), ahead.length());
            faults(ahead + (char) (word.charAt(0) - 32) + word.substring(1) + " 3 1;", ahead.length());
            int last = word.length() - 1;
            char other = word.charAt(last) == 'z' ? 'a' : (char) (word.charAt(last) + 1);
            faults(ahead + word.substring(0, last) + other + " 3 1;", ahead.length());
        }
        faults("boxes 4;lay 3;", 8);
        faults("boxes 4;report 3 1;", 8);
        faults("boxes 4;know 3 1;", 8);
        faults("boxes 4;put 0 1;", 8);
    }

    private static void bytesThatBeginNone() {
        for (int c = 0; c < 128; c++) {
            boolean isFigure = c >= '0' && c <= '9';
            boolean isLetter = c >= 'a' && c <= 'z';
            if (c == ' ') {
                continue;
            }
            faults("boxes 4;" + (char) c, 8);
            faults((char) c + "boxes 4;", 0);
            if (isFigure) {
                faults("boxes 4 " + (char) c + ";", 8);
            } else if (isLetter) {
                faults("boxes 4" + (char) c + ";", 7);
            } else if (c != ';') {
                faults("boxes 4" + (char) c + ";", 7);
                faults("boxes " + (char) c + "4;", 6);
                faults("box" + (char) c + "es 4;", 0);
                faults("boxes" + (char) c + "4;", 5);
                faults("boxes 4;leave 3;" + (char) c, 16);
            }
        }
    }

    private static void tokensOutOfTheirPlace() {
        faults("boxes 4;;", 8);
        faults("boxes 4;leave 3;;", 16);
        faults("boxes ;", 6);
        faults("boxes 4 4;", 8);
        faults("boxes 4;4;", 8);
        String[] one = {"leave", "turn", "missed", "move"};
        for (String word : one) {
            int behind = 8 + word.length();
            faults("boxes 4;" + word + ";", behind);
            faults("boxes 4;" + word + " turn 1;", behind + 1);
            faults("boxes 4;" + word + " 1 1;", behind + 3);
            faults("boxes 4;" + word + " 1 turn 1;", behind + 3);
        }
        String[] two = {"rule", "swap", "found", "known"};
        for (String word : two) {
            int behind = 8 + word.length();
            faults("boxes 4;" + word + ";", behind);
            faults("boxes 4;" + word + " 1;", behind + 2);
            faults("boxes 4;" + word + " 1 turn 1;", behind + 3);
            faults("boxes 4;" + word + " 1 2 3;", behind + 5);
            faults("boxes 4;" + word + " 1 2 turn 1;", behind + 5);
        }
    }

    private static void tooManyReports() {
        String eight = "boxes 3;" + EIGHT;
        counts(eight, 4, 8);
        for (String ninth : new String[] {"found 0 1;", "missed 0;", "found", "missed", "missed 9;", "found;"}) {
            faults(eight + ninth, eight.length());
            faults(eight + "  " + ninth, eight.length() + 2);
        }
        reads(eight + "known 0 1;move 1;swap 0 1;", 12);
        faults(eight + "turn 2;missed 0;", eight.length() + 7);
    }

    private static void tooManyMoves() {
        String four = "boxes 3;move 5;move 0;move 0;move 3;";
        counts(four, 7, 4);
        for (String fifth : new String[] {"move 0;", "move", "move 9;", "move;"}) {
            faults(four + fifth, four.length());
            faults(four + " " + fifth, four.length() + 1);
        }
        reads(four + "found 0 1;leave 1;", 7);
    }

    private static void alikeAndKnownAlready() {
        faults("boxes 4;swap 0 0;", 15);
        faults("boxes 4;swap 3 03;", 15);
        faults("boxes 4;swap 3 3", 15);
        reads("boxes 4;rule 3 3;found 3 3;known 3 3;", 4);
        faults("boxes 4;known 0 1;known 0 2;", 24);
        faults("boxes 4;known 0 1;known 2 1;", 26);
        faults("boxes 4;known 0 1;known 0 1;", 24);
        faults("boxes 4;known 0 1;turn 1;known 00", 31);
        reads("boxes 4;known 0 1;known 1 0;", 3);
        reads("boxes 4;known 0 1;known 1 2;known 2 3;known 3 0;", 5);
        faults("boxes 4;known 0 1;known 1 2;known 2 3;known 3 3;", 46);
    }

    // ---- ends too early

    /** Each beginning of a TEXT: within a word it is a word that is none, elsewhere it ends too early, or is one. */
    private static void endsTooEarly() {
        String text = " boxes 7 ;leave 5;turn 3 ;rule 2 4;swap 6 0;found 3 2;missed 1;known 2 5; move 345;";
        int items = 0;
        for (int end = 0; end <= text.length(); end++) {
            String cut = text.substring(0, end);
            if (cut.endsWith(";")) {
                items++;
            }
            int begun = end;
            while (begun > 0 && Character.isLetter(text.charAt(begun - 1))) {
                begun--;
            }
            boolean within = begun < end && Character.isLetter(text.charAt(end));
            if (items > 0 && cut.trim().endsWith(";")) {
                reads(cut, items);
            } else {
                faults(cut, within ? begun : end);
                faults(cut + "  ", within ? begun : end + 2);
            }
        }
    }

    private static void theFirstOfTwoFaults() {
        faults("boxes 9;turn 9;", 6);
        faults("boxes 4;turn 9;leave 0;", 13);
        faults("boxes 4;rule 4 6;", 13);
        faults("boxes 4;swap 4 4;", 13);
        faults("boxes 4;found 4 0;", 14);
        faults("boxes 4;known 4 4;", 14);
        faults("boxes 4;turn 1?boxes 4;", 14);
        faults("boxes 4;turn 7 7;", 13);
        faults("boxes 4;leave 0", 14);
    }

    // ---- what it takes the place of

    private static BoxRings roomWithAll() {
        BoxRings x = Check.room("boxes 6;leave 4;turn 3;rule 1 2;swap 0 3;known 1 1;found 0 1;move 5;");
        x.swap(0, 1);
        x.image(0);
        x.make(0);
        x.know(2, 2);
        x.image(1);
        x.forget(0);
        x.forget(1);
        x.chance(2);
        x.lay(77);
        x.know(5, 0);
        x.report(2, 2);
        x.undo();
        x.slip(6);
        x.undo();
        x.undo();
        x.undo();
        x.lay(77);
        x.swap(4, 5);
        return x;
    }

    private static void afterAFaultAllStays() {
        String[] texts = {"", "boxes", "boxes 3;leave 9;turn 5;rule 1 1;swap 0 1;found 0 1;missed 2;known 0 1;move 4;boxes",
            "boxes 7;leave 1;turn 0;known 0 0;known 1 0;", "boxes 2;move 1;move 0;move 1;move 0;move 1;",
            "boxes 2;missed 0;missed 1;missed 0;missed 1;missed 0;missed 1;missed 0;missed 1;missed 0;", "boxes 6;swap 0 6;"};
        int[] faults = {0, 5, 77, 41, 36, 80, 15};
        for (int i = 0; i < texts.length; i++) {
            String text = texts[i];
            Twins.changesNothing("'" + text + "'", () -> {
                BoxRings x = roomWithAll();
                Check.typed(x, text);
                return x;
            }, "read", -10 - faults[i], -1);
        }
    }

    private static void takesThePlaceOfAll() {
        BoxRings x = roomWithAll();
        Check.due("may be undone ahead of it", x.count(5), 2);
        Check.due("read", Check.readOf(x, "boxes 4;"), 1);
        int[] first = {4, 2, 1, 0, 0, 0, 8, 0};
        for (int what = 0; what < first.length; what++) {
            Check.due("read of boxes alone, count(" + what + ")", x.count(what), first[what]);
        }
        Check.due("the WAY of first", x.rank(), 0);
        for (int s = 0; s < 4; s++) {
            Check.due("RULES as at first", x.rule(s, 0), 0);
        }
        Check.no("nothing may be undone", x, r -> r.undo());
        Check.due("read of swaps", Check.readOf(x, "boxes 4;swap 0 1;swap 1 2;swap 2 3;"), 4);
        Check.due("the swaps were made one after the other", x.rank(), 6 + 2 + 1);
        Check.no("swaps of a TEXT may not be undone", x, r -> r.undo());
        Check.due("reports in their order", Check.readOf(x, "boxes 3;missed 2;found 1 3;rule 2 5;move 4;move 1;"), 6);
        long h = 823;
        for (long v : new long[] {3, 2, 1, 0, 2, 0, 50, 2, 0, -1, 1, -1, 2, -1, 0, 0, 5, 2, 0, 1, 3, 4, 1, x.part(0), x.part(1)}) {
            h = 31 * h + v;
        }
        Check.due("digest of what was read", x.digest(), h);
    }

    private static void takesThePlaceOfAllBut() {
        BoxRings x = roomWithAll();
        BoxRings y = roomWithAll();
        Check.typed(y, "boxes 3;");
        Check.due("read", Check.readOf(x, "boxes 3;"), 1);
        Check.due("THE FRACTION stays, above", x.part(0), y.part(0));
        Check.due("THE FRACTION stays, below", x.part(1), y.part(1));
        Check.due("it is not as at first", x.part(0) == 0 ? 0 : 1, 1);
        for (int s = 0; s < 3; s++) {
            Check.due("STATUS stays", x.status(s), y.status(s));
        }
        Check.due("it is not as at first", x.status(0), 1);
        Check.due("THE TEXT stays", x.count(6), 8);
        for (int i = 0; i < 2; i++) {
            Check.due("IMAGES stay", x.from(i), y.from(i));
            Check.due("IMAGES stay", x.digest(), y.digest());
            Check.due("what may be undone in them stays", x.undo(), y.undo());
            Check.due("what may be undone in them stays", x.rank(), y.rank());
        }
    }

    private static void readsAgain() {
        BoxRings x = new BoxRings();
        Check.typed(x, "boxes 3;known 0 1;missed 2;move 2;rule 0 1;swap 0 1;");
        Check.due("read", x.read(), 6);
        long digest = x.digest();
        Check.due("read again", x.read(), 6);
        Check.due("it is the same ROOM", x.digest(), digest);
        Check.due("a TEXT that ends too early", Check.readOf(x, "boxes 4;known 0 1;move 3;missed 3;swap"), -10 - 38);
        Check.due("no more than boxes behind a fault", Check.readOf(x, "boxes 4;"), 1);
        Check.due("nothing is left of what had a fault", x.count(3) + x.count(4) + x.count(7) + x.rank(), 0);
        x.type('t');
        Check.due("a byte more is read with it", x.read(), -10 - 8);
    }
}
