import java.io.IOException;
import java.nio.file.Files;
import java.nio.file.Path;
import java.util.List;
import java.util.stream.Collectors;
import java.util.stream.Stream;

/** README.md's lines answer as it says, and it names every test. Run where README.md says. */
public final class ReadmeTest {
    private static String readme = "";

    public static void main(String[] args) throws IOException {
        readme = Files.readString(Path.of("README.md"));
        firstExample();
        roomToldByAText();
        everyTestIsNamed();
        Check.end();
    }

    private static void has(String words) {
        Check.due("README.md has '" + words + "'", readme.contains(words) ? 1 : 0, 1);
    }

    private static void tells(String line, long got, long want) {
        has(line);
        Check.due("README.md's " + line, got, want);
    }

    private static void firstExample() {
        BoxRings x = new BoxRings();
        has("BoxRings x = new BoxRings();      // five boxes, BOX b has SLIP b, each may open two");
        tells("x.boxes(6);                       // six boxes, all as at first; answers 5", x.boxes(6), 5);
        tells("x.put(0, 3);                      // each may open three", x.put(0, 3), 2);
        tells("x.lay(719);                       // the last of all 720 ways: 5 4 3 2 1 0", x.lay(719), 0);
        for (int b = 0; b < 6; b++) {
            Check.due("SLIP " + b + " of README.md's last way", x.slip(b), 5 - b);
        }
        tells("x.finds();                        // 63: all six find", x.finds(), 63);
        tells("x.chance(63);                     // the chance that all find", x.chance(63), 1);
        has("x.part(0); x.part(1);             // .. 23 by 60");
        Check.fraction("README.md's chance", x, 23, 60);
    }

    private static void roomToldByAText() {
        String text = "boxes 4; leave 2; swap 0 1; rule 3 1; known 0 2; missed 1;";
        has("String text = \"" + text + "\";");
        tells("x.read();                         // 6 items", Check.readOf(new BoxRings(), text), 6);
    }

    private static void everyTestIsNamed() throws IOException {
        try (Stream<Path> files = Files.list(Path.of("src/test/java"))) {
            List<String> names = files.map(f -> f.getFileName().toString()).filter(f -> f.endsWith("Test.java"))
                .map(f -> f.replace(".java", "")).sorted().collect(Collectors.toList());
            for (String name : names) {
                has("`" + name + "`");
            }
        }
    }
}
