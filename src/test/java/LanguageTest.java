import java.io.IOException;
import java.lang.reflect.Constructor;
import java.lang.reflect.Field;
import java.lang.reflect.Method;
import java.lang.reflect.Modifier;
import java.nio.file.Files;
import java.nio.file.Path;
import java.util.ArrayList;
import java.util.List;
import java.util.Set;
import java.util.TreeSet;
import java.util.regex.Matcher;
import java.util.regex.Pattern;

/** The rules of LANGUAGE.md, by number, as far as the program's text and its classes show whether they are kept. */
public final class LanguageTest {
    private static final Set<Class<?>> SIMPLE = Set.of(int.class, long.class, boolean.class, int[].class, long[].class);
    private static final Set<String> LIBRARY =
            Set.of("Arrays.fill", "System.arraycopy", "Math.max", "Math.min", "Integer.bitCount");
    private static final Check CHECK = new Check();
    private static final List<Class<?>> CLASSES = classes();

    public static void main(String[] args) throws IOException {
        String text = withoutComments(Files.readString(Path.of("src/main/java/RingTasks.java")));
        rule1Face();
        rule2ClassesInside(text);
        rules3And5Fields(text);
        rule4Library(text);
        rule6Words(text);
        rule9Loops(text);
        rule11Sizes(text);
        rule12ObjectsMade(text);
        CHECK.end();
    }

    private static List<Class<?>> classes() {
        List<Class<?>> all = new ArrayList<>(List.of(RingTasks.class.getDeclaredClasses()));
        all.add(RingTasks.class);
        return all;
    }

    private static String withoutComments(String text) {
        return text.replaceAll("(?s)/\\*.*?\\*/", "").replaceAll("//.*", "");
    }

    private static String found(String pattern, String text) {
        TreeSet<String> all = new TreeSet<>();
        for (Matcher at = Pattern.compile(pattern).matcher(text); at.find(); ) {
            all.add(at.group().trim());
        }
        return String.join(", ", all);
    }

    private static void rule1Face() {
        TreeSet<String> open = new TreeSet<>();
        TreeSet<String> inside = new TreeSet<>();
        for (Class<?> one : CLASSES) {
            for (Method method : one.getDeclaredMethods()) {
                boolean face = one == RingTasks.class && Modifier.isPublic(method.getModifiers());
                (face ? open : inside).add(method.getName());
            }
        }
        inside.retainAll(open);
        CHECK.dueText("rule 1: methods inside that bear a public name", String.join(", ", inside), "");
        for (Class<?> one : RingTasks.class.getDeclaredClasses()) {
            int how = one.getModifiers();
            boolean kept = Modifier.isStatic(how) && !Modifier.isPublic(how) && !Modifier.isProtected(how);
            CHECK.due("rule 1: whether " + one.getSimpleName() + " is static and not open", kept ? 1 : 0, 1);
        }
    }

    private static void rule2ClassesInside(String text) {
        CHECK.dueText("rule 2: lambdas and method references", found("->|::", text), "");
        CHECK.due("rule 2: anonymous and local classes", RingTasks.class.getResource("RingTasks$1.class") == null ? 0 : 1, 0);
        CHECK.due("rule 2: classes", found("\\bclass \\w+", text).split(", ").length, CLASSES.size());
    }

    private static void rules3And5Fields(String text) {
        CHECK.dueText("rule 5: static initialisers", found("static \\s*\\{", text), "");
        for (Class<?> one : CLASSES) {
            for (Field field : one.getDeclaredFields()) {
                String name = one.getSimpleName() + "." + field.getName();
                boolean known = SIMPLE.contains(field.getType()) || CLASSES.contains(field.getType());
                CHECK.due("rule 3: whether the type is one that is left: " + name, known ? 1 : 0, 1);
                if (Modifier.isStatic(field.getModifiers())) {
                    boolean constant = Modifier.isFinal(field.getModifiers())
                            && (field.getType() == int.class || field.getType() == long.class);
                    CHECK.due("rule 5: whether it is a constant: " + name, constant ? 1 : 0, 1);
                }
            }
        }
    }

    private static void rule4Library(String text) {
        CHECK.dueText("rule 4: imports", found("import [^;]*;", text), "import java.util.Arrays;");
        String body = text.replaceAll("import [^;]*;", "");
        for (String used : found("\\b[A-Z][a-z]\\w*\\.\\w+", body).split(", ")) {
            CHECK.due("rule 4: whether the library has " + used, LIBRARY.contains(used) ? 1 : 0, 1);
        }
        CHECK.dueText("rule 4: names in full", found("\\bjavax?\\.", body), "");
        CHECK.dueText("rules 3 and 10: texts and characters", found("[\"']", body), "");
        CHECK.dueText("rule 3: double and float", found("\\b(double|float)\\b", body), "");
    }

    private static void rule6Words(String text) {
        CHECK.dueText("rule 6: words ruled out",
                found("\\b(throws?|try|catch|finally|synchronized|assert|instanceof|equals|hashCode|toString)\\b", text), "");
        CHECK.dueText("rule 6: casts", found("\\((int|long|[A-Z][a-z]\\w*)\\)\\s*\\w", text), "");
    }

    private static void rule9Loops(String text) {
        CHECK.dueText("rule 9: loops without an end", found("while \\(true\\)|for \\([^;]*;\\s*;", text), "");
    }

    private static void rule11Sizes(String text) {
        CHECK.due("rule 11: whether there are at most 12 classes", CLASSES.size() <= 12 ? 1 : 0, 1);
        for (Class<?> one : CLASSES) {
            int fields = 0;
            for (Field field : one.getDeclaredFields()) {
                fields += Modifier.isStatic(field.getModifiers()) ? 0 : 1;
            }
            CHECK.due("rule 11: whether at most 20 fields has " + one.getSimpleName(), fields <= 20 ? 1 : 0, 1);
            for (Method method : one.getDeclaredMethods()) {
                CHECK.due("rule 11: whether at most 7 are taken by " + method.getName(), method.getParameterCount() <= 7 ? 1 : 0, 1);
            }
            for (Constructor<?> made : one.getDeclaredConstructors()) {
                CHECK.due("rule 11: whether at most 7 are taken", made.getParameterCount() <= 7 ? 1 : 0, 1);
            }
        }
        CHECK.due("rule 11: whether methods have at most 60 lines", longestMethod(text) <= 60 ? 1 : 0, 1);
    }

    /** A method begins with a line that ends in ") {" at the depth of members, and ends with a brace at that depth. */
    private static int longestMethod(String text) {
        int longest = 0;
        for (String depth : new String[] {"    ", "        "}) {
            Pattern method = Pattern.compile("(?ms)^" + depth + "\\w[^;{}]*\\) \\{$.*?^" + depth + "\\}$");
            for (Matcher at = method.matcher(text); at.find(); ) {
                longest = Math.max(longest, (int) at.group().lines().count());
            }
        }
        CHECK.due("rule 11: whether methods were found", longest > 10 ? 1 : 0, 1);
        return longest;
    }

    /** Rows are made with the object that has them, and objects by the constructor alone. */
    private static void rule12ObjectsMade(String text) {
        String rest = text.replaceAll("final (int|long)\\[\\] \\w+ = new (int|long)\\[[A-Z_]+( \\+ 1)?\\];", "");
        CHECK.dueText("rule 12: what is made elsewhere", found("new [^;]*;", rest), "new Posts(LEAST_AT_HAND);, new Task(3);");
        CHECK.dueText("rule 12: copies", found("\\b(clone|copyOf\\w*)\\b", text), "");
    }
}
