import java.io.IOException;
import java.lang.reflect.Field;
import java.lang.reflect.Method;
import java.lang.reflect.Modifier;
import java.nio.file.Files;
import java.nio.file.Path;
import java.util.ArrayList;
import java.util.List;
import java.util.regex.Matcher;
import java.util.regex.Pattern;

/** Those rules of ../shared/LANGUAGE.md that the file's words, or the compiled class, can show. Run where README.md says. */
public final class LanguageTest {
    private static final Path SOURCE = Path.of("src/main/java/BoxRings.java");
    private static final String FORBIDDEN = "\\b(package|throw|throws|try|catch|finally|synchronized|assert|native|volatile"
        + "|transient|enum\\s+\\w+\\s+implements|equals|hashCode|toString|Random|Thread|Runtime|Object|Character|Exception"
        + "|Error|yield|float|double|goto|protected|lambda|nanoTime|currentTimeMillis|getClass|exit)\\b|->|::|@|\\w+Exact\\b"
        + "|System\\.(?!arraycopy\\b)|Arrays\\.(?!(fill|copyOf|copyOfRange)\\b)|Integer\\.(?!bitCount\\b)"
        + "|Math\\.(?!(min|max|abs|floorMod|floorDiv)\\b)|\\[\\]\\s*\\[\\]\\s*\\[\\]";

    public static void main(String[] args) throws IOException {
        String source = Files.readString(SOURCE);
        String words = source.replaceAll("(?s)/\\*.*?\\*/|//[^\\n]*", "").replaceAll("\"[^\"\\n]*\"", "\"\"");
        Check.due("signs beyond 127 in the file", source.chars().filter(c -> c > 127).count(), 0);
        Matcher matcher = Pattern.compile(FORBIDDEN).matcher(words);
        while (matcher.find()) {
            Check.due("the word '" + matcher.group() + "' in the file", 1, 0);
        }
        Matcher imports = Pattern.compile("import ([^;]*);").matcher(words);
        while (imports.find()) {
            boolean allowed = List.of("java.util.Arrays", "java.util.ArrayList", "java.util.List").contains(imports.group(1));
            Check.due("import of " + imports.group(1) + " is allowed", allowed ? 1 : 0, 1);
        }
        methodsAreShort(words);
        loopsShowTheirEnd(words);
        List<Class<?>> classes = new ArrayList<>(List.of(BoxRings.class.getDeclaredClasses()));
        classes.add(BoxRings.class);
        Check.due("no more than twelve classes", classes.size() <= 12 ? 1 : 0, 1);
        for (Class<?> type : classes) {
            fieldsAre(type);
            for (Method method : type.getDeclaredMethods()) {
                Check.due(method + " has no more than seven parameters", method.getParameterCount() <= 7 ? 1 : 0, 1);
            }
        }
        Check.end();
    }

    /** A method's lines go from an indented line that opens a brace to the one that closes it, indented alike. */
    private static void methodsAreShort(String words) {
        String[] lines = words.split("\n");
        for (int i = 0; i < lines.length; i++) {
            Matcher head = Pattern.compile("^( {4}| {8})(?! )[^=]*\\) \\{$").matcher(lines[i]);
            if (head.find()) {
                int end = i;
                while (end < lines.length && !lines[end].equals(head.group(1) + "}")) {
                    end++;
                }
                Check.due(lines[i].trim() + " has some sixty lines at most", end - i <= 60 ? 1 : 0, 1);
            }
        }
    }

    /** Rule 9: what a body may move on itself, as a row does that grows while it is walked, is no bound by itself. */
    private static void loopsShowTheirEnd(String words) {
        Matcher loops = Pattern.compile("\\bfor \\(int \\w+ = [^;]*; \\w+ <=? count; ").matcher(words);
        while (loops.find()) {
            Check.due("'" + loops.group() + "..' shows its end", 0, 1);
        }
        Matcher endless = Pattern.compile("\\bwhile \\(true\\)|\\bfor \\([^;]*; ?;").matcher(words);
        while (endless.find()) {
            Check.due("'" + endless.group() + "..' shows its end", 0, 1);
        }
    }

    private static void fieldsAre(Class<?> type) {
        int fields = 0;
        for (Field field : type.getDeclaredFields()) {
            if (field.isSynthetic()) {
                continue;
            }
            if (Modifier.isStatic(field.getModifiers())) {
                Check.due(field + " is final", Modifier.isFinal(field.getModifiers()) ? 1 : 0, 1);
            } else {
                fields++;
                Check.due(field + " is private, or of a class inside",
                    type != BoxRings.class || Modifier.isPrivate(field.getModifiers()) ? 1 : 0, 1);
            }
        }
        Check.due(type + " has no more than twenty fields", fields <= 20 ? 1 : 0, 1);
    }
}
