/** What the tests share: answers held against what is due, rooms told by a text, refusals. */
final class Check {
    static final int AS_BAD = 0, AS_NO = 1, AS_FULL = 2;

    private static int wrong = 0;

    private Check() {
    }

    interface Call {
        long on(BoxRings x);
    }

    static void due(String what, long got, long want) {
        if (got != want) {
            wrong++;
            System.out.println(what + " is " + got + ", due is " + want);
        }
    }

    static void end() {
        if (wrong != 0) {
            System.out.println(wrong + " answers are not as due");
            System.exit(1);
        }
    }

    static int typed(BoxRings x, String text) {
        x.clear();
        for (int i = 0; i < text.length(); i++) {
            x.type(text.charAt(i));
        }
        return x.count(6);
    }

    static int readOf(BoxRings x, String text) {
        typed(x, text);
        return x.read();
    }

    static BoxRings room(String text) {
        BoxRings x = new BoxRings();
        if (readOf(x, text) < 0) {
            due("the text of a test, '" + text + "', is read", 0, 1);
        }
        return x;
    }

    /** The call is refused: its answer, one more in STATUS, and all else as ahead of it. */
    static void refuses(String what, BoxRings x, Call call, long answer, int status) {
        long[] before = seen(x);
        due(what, call.on(x), answer);
        before[status]++;
        same(what, x, before);
    }

    static void bad(String what, BoxRings x, Call call) {
        refuses(what, x, call, BoxRings.BAD, AS_BAD);
    }

    static void badQuestion(String what, BoxRings x, Call call) {
        refuses(what, x, call, -10, AS_BAD);
    }

    static void no(String what, BoxRings x, Call call) {
        refuses(what, x, call, BoxRings.NO, AS_NO);
    }

    static void full(String what, BoxRings x, Call call) {
        refuses(what, x, call, BoxRings.FULL, AS_FULL);
    }

    /** The call answers, and changes nothing, nor counts as refused. */
    static void tells(String what, BoxRings x, Call call, long answer) {
        long[] before = seen(x);
        due(what, call.on(x), answer);
        same(what, x, before);
    }

    static void fraction(String what, BoxRings x, long above, long below) {
        due(what + ", above", x.part(0), above);
        due(what + ", below", x.part(1), below);
    }

    private static long[] seen(BoxRings x) {
        return new long[] {x.status(0), x.status(1), x.status(2), x.digest()};
    }

    private static void same(String what, BoxRings x, long[] want) {
        long[] now = seen(x);
        String[] names = {"BAD", "NO", "FULL", "digest"};
        for (int i = 0; i < now.length; i++) {
            due(what + ": " + names[i] + " behind it", now[i], want[i]);
        }
    }
}
