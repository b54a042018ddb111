import java.lang.reflect.InvocationTargetException;
import java.lang.reflect.Method;
import java.util.ArrayList;
import java.util.List;

/**
 * Two objects made alike, one of which is asked a call that changes nothing but STATUS, if so much: whatever is asked
 * of them from then on they must answer alike, also what no other call but a later undo, from or read can show.
 */
final class Twins {
    interface Making {
        BoxRings made();
    }

    private Twins() {
    }

    /** A call told by its name and numbers: "put 0 n+1". */
    static long answer(BoxRings x, String call) {
        String[] words = call.split(" ");
        int[] numbers = new int[words.length - 1];
        for (int i = 0; i < numbers.length; i++) {
            numbers[i] = number(x, words[i + 1]);
        }
        for (Method method : BoxRings.class.getMethods()) {
            if (method.getName().equals(words[0]) && method.getDeclaringClass() == BoxRings.class) {
                return answer(x, method, numbers);
            }
        }
        throw new IllegalArgumentException(call);
    }

    private static long answer(BoxRings x, Method method, int[] numbers) {
        Object[] boxed = new Object[numbers.length];
        for (int i = 0; i < numbers.length; i++) {
            boxed[i] = numbers[i];
        }
        try {
            return ((Number) method.invoke(x, boxed)).longValue();
        } catch (IllegalAccessException | InvocationTargetException e) {
            throw new IllegalArgumentException(method.getName(), e);
        }
    }

    /** n: BOXES; ways: how many WAYS they have; bits: 1 more than all SEEKERS; moves: MOVES; low, high: of all int. */
    private static int number(BoxRings x, String word) {
        int n = x.count(0);
        switch (word) {
            case "low": return Integer.MIN_VALUE;
            case "high": return Integer.MAX_VALUE;
            case "n-1": return n - 1;
            case "n": return n;
            case "n+1": return n + 1;
            case "ways-1": return waysOf(n) - 1;
            case "ways": return waysOf(n);
            case "bits-1": return (1 << n) - 1;
            case "bits": return 1 << n;
            case "moves-1": return x.count(7) - 1;
            case "moves": return x.count(7);
            default: return Integer.parseInt(word);
        }
    }

    static int waysOf(int n) {
        int ways = 1;
        for (int i = 2; i <= n; i++) {
            ways *= i;
        }
        return ways;
    }

    /** The call answers so, counts in STATUS as told (-1: not at all), and changes nothing else. */
    static void changesNothing(String what, Making making, String call, long due, int status) {
        BoxRings asked = making.made();
        BoxRings other = making.made();
        String name = what + ", " + call;
        Check.due(name, answer(asked, call), due);
        statusIsAlike(name, asked, other, status);
        List<String> one = life(asked);
        List<String> two = life(other);
        statusIsAlike(name + ", far behind it", asked, other, status);
        for (int i = 0; i < Math.min(one.size(), two.size()); i++) {
            if (!one.get(i).equals(two.get(i))) {
                Check.due(name + ": behind it " + one.get(i) + " for " + two.get(i), 1, 0);
                return;
            }
        }
        Check.due(name + ": answers behind it", one.size(), two.size());
    }

    private static void statusIsAlike(String name, BoxRings asked, BoxRings other, int status) {
        for (int s = 0; s < 3; s++) {
            Check.due(name + ": status(" + s + ")", asked.status(s), other.status(s) + (s == status ? 1 : 0));
        }
    }

    /** All that calls can tell of an object but STATUS; it is used up by them. */
    private static List<String> life(BoxRings x) {
        List<String> told = new ArrayList<>();
        tellRoom(told, x);
        for (int image = 0; image < 2; image++) {
            told.add("from(" + image + ") " + x.from(image));
            tellRoom(told, x);
        }
        told.add("read() " + x.read());
        tellRoom(told, x);
        told.add("clear() " + x.clear());
        told.add("look() " + x.look());
        told.add("digest() " + x.digest());
        return told;
    }

    private static void tellRoom(List<String> told, BoxRings x) {
        told.add("digest() " + x.digest());
        told.add("rank() " + x.rank());
        told.add("finds() " + x.finds());
        told.add("mayBe(-1) " + x.mayBe(-1));
        told.add("till(0) " + x.till(0));
        told.add("fewest(1, 0) " + x.fewest(1, 0));
        told.add("group() " + x.group());
        while (x.count(5) > 0) {
            told.add("undo() " + x.undo());
            told.add("rank() " + x.rank());
        }
        told.add("digest() " + x.digest());
    }
}
