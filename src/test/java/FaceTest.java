import java.lang.reflect.Constructor;
import java.lang.reflect.Executable;
import java.lang.reflect.Field;
import java.lang.reflect.Method;
import java.lang.reflect.Modifier;
import java.lang.reflect.Parameter;
import java.util.List;
import java.util.Set;
import java.util.StringJoiner;
import java.util.TreeSet;

/**
 * The public face: what the document's code block has, word for word, and no member more that can be seen. The
 * names of parameters are there only when the class was compiled with -parameters.
 */
final class FaceTest {
    private static final String CLASS = "public final class MadeRunners";
    private static final List<String> MEMBERS = List.of(
            "public static final int NONE = -1",
            "public MadeRunners(int generations)",
            "public int block() throws UnsupportedOperationException",
            "public int instruction(int block, int op, int a, int b)"
                    + " throws IndexOutOfBoundsException, IllegalArgumentException, UnsupportedOperationException",
            "public int make(int block) throws IndexOutOfBoundsException",
            "public int byteAt(int block, int i)"
                    + " throws IndexOutOfBoundsException, IllegalStateException, IllegalArgumentException",
            "public int alter(int block, int i, int v)"
                    + " throws IndexOutOfBoundsException, IllegalStateException, IllegalArgumentException",
            "public int check(int block) throws IndexOutOfBoundsException, IllegalStateException",
            "public int border()",
            "public int what(int block, int what) throws IndexOutOfBoundsException, IllegalArgumentException",
            "public int next()",
            "public int run(int block, long x, long y) throws IndexOutOfBoundsException",
            "public long register(int r) throws IndexOutOfBoundsException",
            "public int ended(int what) throws IndexOutOfBoundsException",
            "public boolean same(int block, long x, long y) throws IndexOutOfBoundsException, IllegalStateException",
            "public int count(int what)");

    public static void main(String[] args) throws IllegalAccessException {
        Due due = new Due();
        compare(due, "the class", membersOf(MadeRunners.class));
        due.reads("the class", MadeRunners.class.toGenericString(), CLASS);
        due.reads("the class above", MadeRunners.class.getSuperclass().getName(), "java.lang.Object");
        due.is("interfaces", MadeRunners.class.getInterfaces().length, 0);
        for (String each : Passage.paragraphs("The public face")) {
            due.reads("the document's class", each.substring(0, each.indexOf(" {")), CLASS);
            compare(due, "the document", membersIn(each));
        }
        due.end();
    }

    private static void compare(Due due, String where, Set<String> found) {
        Set<String> either = new TreeSet<>(found);
        either.addAll(MEMBERS);
        for (String each : either) {
            due.is(where + " has \"" + each + "\"", found.contains(each), MEMBERS.contains(each));
        }
    }

    /** The members of the document's code block, whose lines stand behind one another here. */
    private static Set<String> membersIn(String block) {
        String inside = block.substring(block.indexOf('{') + 1, block.lastIndexOf('}')).trim();
        return new TreeSet<>(List.of(inside.split("; ?")));
    }

    /** All members that are not private, as the document would write them. */
    private static Set<String> membersOf(Class<?> face) throws IllegalAccessException {
        Set<String> found = new TreeSet<>();
        for (Field each : face.getDeclaredFields()) {
            if (!Modifier.isPrivate(each.getModifiers())) {
                found.add(written(each));
            }
        }
        for (Constructor<?> each : face.getDeclaredConstructors()) {
            if (!Modifier.isPrivate(each.getModifiers())) {
                found.add(Modifier.toString(each.getModifiers()) + " " + face.getSimpleName() + written(each));
            }
        }
        for (Method each : face.getDeclaredMethods()) {
            if (!Modifier.isPrivate(each.getModifiers())) {
                String before = Modifier.toString(each.getModifiers()) + " " + each.getReturnType().getSimpleName() + " ";
                found.add(before + each.getName() + written(each));
            }
        }
        for (Class<?> each : face.getDeclaredClasses()) {
            if (Modifier.isPublic(each.getModifiers()) || Modifier.isProtected(each.getModifiers())) {
                found.add(each.toGenericString());
            }
        }
        return found;
    }

    private static String written(Field field) throws IllegalAccessException {
        String before = Modifier.toString(field.getModifiers()) + " " + field.getType().getSimpleName() + " " + field.getName();
        return Modifier.isStatic(field.getModifiers()) ? before + " = " + field.get(null) : before;
    }

    /** What stands behind the name of a constructor or a method. */
    private static String written(Executable called) {
        StringJoiner parameters = new StringJoiner(", ", "(", ")");
        for (Parameter each : called.getParameters()) {
            parameters.add(each.getType().getSimpleName() + " " + each.getName());
        }
        StringJoiner thrown = new StringJoiner(", ", " throws ", "").setEmptyValue("");
        for (Class<?> each : called.getExceptionTypes()) {
            thrown.add(each.getSimpleName());
        }
        return parameters.toString() + thrown;
    }
}
