import java.lang.reflect.Method;
import java.util.ArrayList;
import java.util.List;
import java.util.Map;
import java.util.Random;
import java.util.TreeMap;

/** Random runs of 512 calls, each answer held against the model's; the seeds are fixed. */
public final class RandomRunsTest {
    private static final int CALLS = 512;
    /** How many runs at most so many BOXES: those of seven cost the model most. */
    private static final int[][] RUNS = {{4, 500}, {5, 200}, {6, 40}, {7, 12}};
    private static final int TEXTS = 10000;

    private static final Map<String, Method> REAL = methods(BoxRings.class);
    private static final Map<String, Method> MODEL = methods(Model.class);
    /** Names of calls; what changes much, or takes long, stands here more seldom. */
    private static final List<String> NAMES = names();

    private final Random random;
    private final int mostBoxes;
    private final BoxRings real = new BoxRings();
    private final Model model = new Model();
    private final List<String> calls = new ArrayList<>();

    private RandomRunsTest(long seed, int mostBoxes) {
        random = new Random(seed);
        this.mostBoxes = mostBoxes;
    }

    public static void main(String[] args) throws ReflectiveOperationException {
        long seed = 0;
        for (int[] runs : RUNS) {
            for (int i = 0; i < runs[1]; i++) {
                if (!new RandomRunsTest(seed++, runs[0]).isRunAsDue()) {
                    System.exit(1);
                }
            }
        }
        for (int i = 0; i < TEXTS; i++) {
            if (!new RandomRunsTest(seed++, 7).isTextAsDue()) {
                System.exit(1);
            }
        }
    }

    private static Map<String, Method> methods(Class<?> type) {
        Map<String, Method> methods = new TreeMap<>();
        for (Method method : type.getDeclaredMethods()) {
            if (!java.lang.reflect.Modifier.isPrivate(method.getModifiers()) && !method.isSynthetic()) {
                methods.put(method.getName(), method);
            }
        }
        return methods;
    }

    private static List<String> names() {
        List<String> names = new ArrayList<>();
        for (String name : REAL.keySet()) {
            int often = List.of("boxes", "clear", "drop", "read", "type").contains(name) ? 1
                : List.of("advice", "till", "fewest", "roots", "group", "back", "even").contains(name) ? 2 : 4;
            for (int i = 0; i < often; i++) {
                names.add(name);
            }
        }
        return names;
    }

    private boolean isRunAsDue() throws ReflectiveOperationException {
        if (!isAsDue("boxes", 2 + random.nextInt(mostBoxes - 1))) {
            return false;
        }
        while (calls.size() < CALLS - 120) {
            String name = NAMES.get(random.nextInt(NAMES.size()));
            boolean due = name.equals("read") ? isTextAsDue() : isAsDue(name, arguments(name));
            if (!due || !isAsDue("digest")) {
                return false;
            }
        }
        return true;
    }

    private boolean isAsDue(String name, int... arguments) throws ReflectiveOperationException {
        StringBuilder call = new StringBuilder(name);
        Object[] boxed = new Object[arguments.length];
        for (int i = 0; i < arguments.length; i++) {
            boxed[i] = arguments[i];
            call.append(' ').append(arguments[i]);
        }
        calls.add(call.toString());
        long got = ((Number) REAL.get(name).invoke(real, boxed)).longValue();
        long want = ((Number) MODEL.get(name).invoke(model, boxed)).longValue();
        if (got != want) {
            System.out.println(calls + " answered " + got + ", due is " + want);
        }
        return got == want;
    }

    private int[] arguments(String name) {
        int n = model.count(0);
        int ways = 1;
        for (int i = 2; i <= n; i++) {
            ways *= i;
        }
        switch (name) {
            case "boxes": return new int[] {within(2, mostBoxes, 1, 8)};
            case "put": return new int[] {within(0, 1), within(1, n)};
            case "rule": return new int[] {within(0, n - 1), within(0, 5)};
            case "swap":
            case "know": return new int[] {within(0, n - 1), within(0, n - 1)};
            case "lay":
            case "alike":
            case "move": return new int[] {random.nextInt(3) == 0 ? within(0, Math.min(6, ways - 1)) : within(0, ways - 1)};
            case "report": return new int[] {within(0, n - 1), within(0, n)};
            case "type": return new int[] {within(0, 127)};
            case "slip": return new int[] {within(0, n - 1)};
            case "rings": return new int[] {within(-1, n - 1)};
            case "opened": return new int[] {within(0, n - 1), within(-1, 3)};
            case "worked": return new int[] {within(0, 99)};
            case "roots": return new int[] {within(2, 9)};
            case "make": return new int[] {within(0, Math.max(0, model.count(7) - 1))};
            case "fewest": return new int[] {within(0, ways - 1), within(-1, 3)};
            case "till": return new int[] {within(-1, 2)};
            case "mayBe": return new int[] {random.nextInt(2) == 0 ? -1 : within(-1, ways - 1)};
            case "chance": return new int[] {random.nextInt(2) == 0 ? (1 << n) - 1 : within(0, (1 << n) - 1)};
            case "laid": return new int[] {within(0, 999999)};
            case "lucky": return new int[] {within(0, 999999), within(0, 60)};
            case "status": return new int[] {within(0, 2)};
            case "count": return new int[] {within(0, 7)};
            case "forget":
            case "worst":
            case "third":
            case "part":
            case "image":
            case "from": return new int[] {within(0, 1)};
            default: return new int[0];
        }
    }

    private int within(int least, int most) {
        return within(least, most, least - 1, most + 1);
    }

    private int within(int least, int most, int under, int over) {
        switch (random.nextInt(40)) {
            case 0: return under;
            case 1: return over;
            case 2: return random.nextBoolean() ? Integer.MIN_VALUE : Integer.MAX_VALUE;
            default: return least + random.nextInt(most - least + 1);
        }
    }

    private boolean isTextAsDue() throws ReflectiveOperationException {
        StringBuilder text = new StringBuilder();
        text.append(blanks(0)).append("boxes").append(blanks(0)).append(2 + random.nextInt(mostBoxes - 1)).append(";");
        int n = text.charAt(text.length() - 2) - '0';
        int items = random.nextInt(7);
        for (int i = 0; i < items; i++) {
            addItem(text, n);
        }
        if (random.nextInt(3) == 0) {
            spoil(text);
        }
        boolean due = isAsDue("clear");
        for (int i = 0; i < text.length() && i < 70 && due; i++) {
            due = isAsDue("type", text.charAt(i));
        }
        return due && isAsDue("read") && isAsDue("digest");
    }

    private void addItem(StringBuilder text, int n) {
        String[] words = {"leave", "turn", "rule", "swap", "found", "missed", "known", "move", "boxes"};
        int[][] most = {{n}, {6}, {n - 1, 5}, {n - 1, n - 1}, {n - 1, n}, {n - 1}, {n - 1, n - 1}, {n}, {7}};
        int word = random.nextInt(random.nextInt(10) == 0 ? 9 : 8);
        text.append(blanks(0)).append(words[word]);
        for (int i = 0; i < most[word].length; i++) {
            int least = i == 1 && words[word].equals("found") || words[word].equals("leave") ? 1 : 0;
            int v = least + random.nextInt(most[word][i] + 1 - least);
            text.append(blanks(i)).append(random.nextInt(20) == 0 ? v + 3 : v);
        }
        text.append(blanks(0)).append(';');
    }

    private String blanks(int least) {
        int many = least + (random.nextInt(3) == 0 ? random.nextInt(3) : 0);
        return "   ".substring(0, many);
    }

    private void spoil(StringBuilder text) {
        int at = random.nextInt(text.length());
        String signs = "; 0123a#boxesA;1 \u0000\u007f";
        switch (random.nextInt(4)) {
            case 0: text.deleteCharAt(at); break;
            case 1: text.setLength(at); break;
            case 2: text.insert(at, "00001".substring(random.nextInt(5))); break;
            default: text.insert(at, signs.charAt(random.nextInt(signs.length()))); break;
        }
    }
}
