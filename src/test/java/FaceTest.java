import java.lang.reflect.Member;
import java.lang.reflect.Method;
import java.lang.reflect.Modifier;
import java.util.Arrays;
import java.util.List;
import java.util.TreeSet;

/** The class shows the document's face, and nothing beside it. */
public final class FaceTest {
    private static final String METHODS = "boxes(int)int put(int,int)int rule(int,int)int swap(int,int)int "
        + "lay(int)int undo()int know(int,int)int report(int,int)int forget(int)int type(int)int clear()int "
        + "read()int slip(int)int rank()int rings(int)int opened(int,int)int finds()int worked(int)int back()int "
        + "undoes()int goesWith()int roots(int)int alike(int)int even()int move(int)int drop()int make(int)int "
        + "group()int fewest(int,int)int till(int)int mayBe(int)int chance(int)int look()int advice()int "
        + "worst(int)int mended()int third(int)int laid(int)int lucky(int,int)int part(int)long image(int)int "
        + "from(int)int status(int)int count(int)int digest()long";

    private static int wrong = 0;

    private static void due(String what, Object got, Object want) {
        if (!got.equals(want)) {
            wrong++;
            System.out.println(what + " is " + got + ", due is " + want);
        }
    }

    private static String shape(Method method) {
        StringBuilder shape = new StringBuilder(method.getName()).append('(');
        for (Class<?> parameter : method.getParameterTypes()) {
            shape.append(shape.charAt(shape.length() - 1) == '(' ? "" : ",").append(parameter.getName());
        }
        return shape.append(')').append(method.getReturnType().getName()).toString();
    }

    private static boolean isHidden(Member member) {
        return Modifier.isPrivate(member.getModifiers()) || member.isSynthetic();
    }

    public static void main(String[] args) {
        TreeSet<String> methods = new TreeSet<>();
        TreeSet<String> names = new TreeSet<>();
        TreeSet<String> hidden = new TreeSet<>();
        for (Method method : BoxRings.class.getDeclaredMethods()) {
            if (isHidden(method)) {
                hidden.add(method.getName());
            } else {
                methods.add(shape(method));
                names.add(method.getName());
            }
        }
        due("methods", methods, new TreeSet<>(Arrays.asList(METHODS.split(" "))));
        hidden.retainAll(names);
        due("private methods that bear a public one's name", hidden.isEmpty(), true);

        TreeSet<String> fields = new TreeSet<>();
        Arrays.stream(BoxRings.class.getDeclaredFields()).filter(f -> !isHidden(f)).forEach(f -> fields.add(f.getName()));
        due("fields", fields, new TreeSet<>(List.of("NONE", "BAD", "NO", "FULL")));
        due("NONE", BoxRings.NONE, -1);
        due("BAD", BoxRings.BAD, -2);
        due("NO", BoxRings.NO, -3);
        due("FULL", BoxRings.FULL, -4);
        due("constructors", BoxRings.class.getDeclaredConstructors().length, 1);
        due("public constructors", BoxRings.class.getConstructors().length, 1);
        due("modifiers", Modifier.toString(BoxRings.class.getModifiers()), "public final");
        for (Class<?> inside : BoxRings.class.getDeclaredClasses()) {
            due(inside.getName() + " is static", Modifier.isStatic(inside.getModifiers()), true);
            due(inside.getName() + " is public", Modifier.isPublic(inside.getModifiers()), false);
        }
        if (wrong != 0) {
            System.exit(1);
        }
    }
}
