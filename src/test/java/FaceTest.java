import java.lang.reflect.Constructor;
import java.lang.reflect.Field;
import java.lang.reflect.Method;
import java.lang.reflect.Modifier;
import java.util.Arrays;
import java.util.Set;
import java.util.TreeSet;

/** The public face: the document's members, with its throws clauses, and no others that can be seen. */
final class FaceTest {
    private static final String[] METHODS = {
        "int block() UnsupportedOperationException",
        "int instruction(int,int,int,int) IndexOutOfBoundsException IllegalArgumentException UnsupportedOperationException",
        "int make(int) IndexOutOfBoundsException",
        "int byteAt(int,int) IndexOutOfBoundsException IllegalStateException IllegalArgumentException",
        "int alter(int,int,int) IndexOutOfBoundsException IllegalStateException IllegalArgumentException",
        "int check(int) IndexOutOfBoundsException IllegalStateException",
        "int border()",
        "int what(int,int) IndexOutOfBoundsException IllegalArgumentException",
        "int next()",
        "int run(int,long,long) IndexOutOfBoundsException",
        "long register(int) IndexOutOfBoundsException",
        "int ended(int) IndexOutOfBoundsException",
        "boolean same(int,long,long) IndexOutOfBoundsException IllegalStateException",
        "int count(int)",
    };

    public static void main(String[] args) {
        Due due = new Due();
        Class<?> face = MadeRunners.class;
        due.is("NONE", MadeRunners.NONE, -1);
        due.is("final", Modifier.isFinal(face.getModifiers()), true);
        methods(due, face);
        for (Constructor<?> each : face.getDeclaredConstructors()) {
            due.is("constructor " + each, each.toString().equals("public MadeRunners(int)"), true);
        }
        for (Field each : face.getDeclaredFields()) {
            boolean isNone = each.toString().equals("public static final int MadeRunners.NONE");
            due.is("field " + each, isNone || Modifier.isPrivate(each.getModifiers()), true);
            due.is("static field " + each, !Modifier.isStatic(each.getModifiers()) || Modifier.isFinal(each.getModifiers()), true);
        }
        for (Class<?> each : face.getDeclaredClasses()) {
            boolean isSeen = Modifier.isPublic(each.getModifiers()) || Modifier.isProtected(each.getModifiers());
            due.is("class " + each + " is seen", isSeen, false);
        }
        due.end();
    }

    private static void methods(Due due, Class<?> face) {
        Set<String> seen = new TreeSet<>();
        Set<String> publicNames = new TreeSet<>();
        for (Method each : face.getDeclaredMethods()) {
            if (!Modifier.isPrivate(each.getModifiers())) {
                seen.add(written(each));
                publicNames.add(each.getName());
                due.is("public " + each, Modifier.isPublic(each.getModifiers()), true);
            }
        }
        Set<String> want = new TreeSet<>(Arrays.asList(METHODS));
        due.is("methods are " + want + ", seen " + seen, seen.equals(want), true);
        for (Method each : face.getDeclaredMethods()) {
            boolean isPrivate = Modifier.isPrivate(each.getModifiers());
            due.is("name of " + each, isPrivate && publicNames.contains(each.getName()), false);
        }
    }

    private static String written(Method method) {
        StringBuilder text = new StringBuilder();
        text.append(method.getReturnType().getSimpleName()).append(' ').append(method.getName()).append('(');
        String comma = "";
        for (Class<?> each : method.getParameterTypes()) {
            text.append(comma).append(each.getSimpleName());
            comma = ",";
        }
        text.append(')');
        for (Class<?> each : method.getExceptionTypes()) {
            text.append(' ').append(each.getSimpleName());
        }
        return text.toString();
    }
}
