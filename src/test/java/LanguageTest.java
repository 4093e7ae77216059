import java.lang.reflect.Executable;
import java.lang.reflect.Field;
import java.lang.reflect.Method;
import java.lang.reflect.Modifier;
import java.nio.file.Files;
import java.nio.file.Path;
import java.util.ArrayDeque;
import java.util.ArrayList;
import java.util.Deque;
import java.util.List;
import java.util.Set;
import java.util.TreeSet;
import java.util.regex.Matcher;
import java.util.regex.Pattern;

/** Those rules of ../shared/LANGUAGE.md that can be looked up in the class and in its text. */
final class LanguageTest {
    private static final Path SOURCE = Path.of("src", "main", "java", "MadeRunners.java");
    private static final Pattern COMMENT = Pattern.compile("//[^\n]*|/\\*(?s:.*?)\\*/");
    private static final Pattern WRITTEN_TEXT = Pattern.compile("\"(\\\\.|[^\"\\\\])*\"");
    private static final Set<String> CONSTANT_TYPES = Set.of("int", "long", "boolean", "char", "String", "int[]", "long[]", "char[]", "byte[]");
    private static final int MOST_LINES = 60;
    private static final int MOST_PARAMETERS = 7;
    private static final int MOST_CLASSES = 12;
    private static final int MOST_FIELDS = 20;

    private final Due due = new Due();
    private final List<Class<?>> classes = new ArrayList<>();
    private final String source;
    private final String code;

    private LanguageTest(String source) {
        this.source = source;
        code = WRITTEN_TEXT.matcher(withoutComments(source)).replaceAll("\"\"");
        classes.add(MadeRunners.class);
        for (int i = 0; i < classes.size(); i++) {
            classes.addAll(List.of(classes.get(i).getDeclaredClasses()));
        }
    }

    public static void main(String[] args) throws Exception {
        LanguageTest test = new LanguageTest(Files.readString(SOURCE));
        test.names();
        test.library();
        test.staticFields();
        test.exceptions();
        test.sizes();
        test.due.end();
    }

    /** Lines stay where they are, so that they can be counted. */
    private static String withoutComments(String text) {
        return COMMENT.matcher(text).replaceAll(each -> each.group().replaceAll("[^\n]+", ""));
    }

    private void names() {
        due.under("rule 1");
        Set<String> face = new TreeSet<>();
        for (Method each : MadeRunners.class.getDeclaredMethods()) {
            if (Modifier.isPublic(each.getModifiers())) {
                face.add(each.getName());
            }
        }
        for (Class<?> type : classes) {
            for (Method each : type.getDeclaredMethods()) {
                boolean isFace = type == MadeRunners.class && Modifier.isPublic(each.getModifiers());
                due.is(each + " bears the name of a public one", !isFace && face.contains(each.getName()), false);
            }
            due.is(type + " is static", type == MadeRunners.class || Modifier.isStatic(type.getModifiers()), true);
        }
        due.is("a package line", found("(?m)^package ").size(), 0);
        due.under("rule 2");
        due.reads("lambdas and method references", "" + found("->|::"), "[]");
        due.under("rule 3");
        due.is("characters above 255", source.chars().filter(each -> each > 255).count(), 0);
    }

    private void library() {
        due.under("rule 4");
        only("import ([\\w.* ]+);", "java.util.ArrayList", "java.util.List", "java.util.Arrays", "java.util.Iterator",
                "java.util.NoSuchElementException");
        only("\\bSystem\\.(\\w+)", "arraycopy");
        only("\\bArrays\\.(\\w+)\\(", "copyOf", "copyOfRange", "fill");
        only("(?:Math|Integer|Long)\\.(\\w+Exact)\\b");
        only("\\bnew (\\w+)<\\w+>\\(", "ArrayList");
    }

    private void staticFields() {
        due.under("rule 5");
        for (Class<?> type : classes) {
            for (Field each : type.getDeclaredFields()) {
                if (Modifier.isStatic(each.getModifiers())) {
                    due.is(each + " is final", Modifier.isFinal(each.getModifiers()), true);
                    due.is(each + " is of a constant's type", CONSTANT_TYPES.contains(each.getType().getSimpleName()), true);
                }
            }
        }
        due.is("static initialiser blocks", found("\\bstatic\\s*\\{").size(), 0);
    }

    /** Where nothing is caught, nothing that the machine might throw could be hidden. */
    private void exceptions() {
        due.under("rule 6");
        only("\\bthrow (.*?)\\(\"\"\\);", "new IllegalStateException", "new IllegalArgumentException",
                "new IndexOutOfBoundsException", "new UnsupportedOperationException");
        due.is("throws of another form", found("\\bthrow\\b(?!.*\\(\"\"\\);)").size(), 0);
        only("\\b(try|catch|finally|synchronized|assert|equals|hashCode|toString)\\b");
    }

    private void sizes() {
        due.under("rule 11");
        due.is("classes, at most " + MOST_CLASSES, classes.size() <= MOST_CLASSES, true);
        for (Class<?> type : classes) {
            int fields = 0;
            for (Field each : type.getDeclaredFields()) {
                fields += Modifier.isStatic(each.getModifiers()) ? 0 : 1;
            }
            due.is(type + " has few fields", fields <= MOST_FIELDS, true);
            List<Executable> called = new ArrayList<>(List.of(type.getDeclaredMethods()));
            called.addAll(List.of(type.getDeclaredConstructors()));
            for (Executable each : called) {
                due.is(each + " has few parameters", each.getParameterCount() <= MOST_PARAMETERS, true);
            }
        }
        lengths();
    }

    /** What stands in braces and is no class is a method, or a part of one. */
    private void lengths() {
        Deque<Integer> open = new ArrayDeque<>();
        for (int i = 0; i < code.length(); i++) {
            if (code.charAt(i) == '{') {
                open.push(i);
            } else if (code.charAt(i) == '}') {
                int from = open.pop();
                String before = code.substring(Math.max(code.lastIndexOf('\n', from), 0), from);
                long lines = code.substring(from, i).lines().count();
                due.is("in few lines:" + before, lines <= MOST_LINES || before.contains(" class "), true);
            }
        }
    }

    private void only(String pattern, String... allowed) {
        for (String each : found(pattern)) {
            due.is(each + " is allowed", List.of(allowed).contains(each), true);
        }
    }

    private List<String> found(String pattern) {
        List<String> all = new ArrayList<>();
        Matcher matcher = Pattern.compile(pattern).matcher(code);
        while (matcher.find()) {
            all.add(matcher.group(matcher.groupCount() > 0 ? 1 : 0));
        }
        return all;
    }
}
