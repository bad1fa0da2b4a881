import java.io.IOException;
import java.lang.reflect.Constructor;
import java.lang.reflect.Field;
import java.lang.reflect.Method;
import java.lang.reflect.Modifier;
import java.nio.file.Files;
import java.nio.file.Path;
import java.util.TreeSet;
import java.util.regex.Matcher;
import java.util.regex.Pattern;

/** The public face is the document's and no more, and the text keeps to the words that the language leaves. */
public final class FaceTest {
    private static final String FACE = String.join(", ", new TreeSet<>(java.util.List.of(
            "int labels(int)", "int allow(int,int,boolean)", "int may(int,int)", "long rings(int)",
            "int first(int,int)", "long walks(int,int,int)", "int blocks()", "int block(int)",
            "int pace(int)", "int kind()", "int sure()", "int free(int)", "int mirrors()",
            "int ring(int)", "int put(int,int)", "int at(int)", "int faults()", "int fault(int)",
            "int mend(int)", "int fresh()", "int number(int,int)", "int told(int)", "int round()",
            "int colours()", "int take()", "int count(int)", "RingTasks()",
            "int UNKNOWN", "int OUTSIDE", "int STATE", "int FULL", "int NONE")));
    private static final Pattern RULED_OUT = Pattern.compile(
            "\\b(throw|throws|try|catch|synchronized|assert|Random|System\\.(?!arraycopy)\\w+|Thread|\\w+Exact)\\b|->|::");
    private static final Check CHECK = new Check();

    public static void main(String[] args) throws IOException {
        CHECK.dueText("the face", face(), FACE);
        CHECK.due("public and final", RingTasks.class.getModifiers(), Modifier.PUBLIC | Modifier.FINAL);
        String text = Files.readString(Path.of("src/main/java/RingTasks.java"));
        CHECK.dueText("words ruled out", found(RULED_OUT, text), "");
        CHECK.dueText("methods inside that bear a public name", sharedNames(), "");
        CHECK.dueText("imports", found(Pattern.compile("import [^;]*;"), text), "import java.util.Arrays;");
        CHECK.end();
    }

    private static String face() {
        TreeSet<String> members = new TreeSet<>();
        for (Method method : RingTasks.class.getDeclaredMethods()) {
            if (!Modifier.isPrivate(method.getModifiers())) {
                members.add(method.getReturnType() + " " + method.getName() + types(method.getParameterTypes()));
            }
        }
        for (Constructor<?> made : RingTasks.class.getDeclaredConstructors()) {
            members.add("RingTasks" + types(made.getParameterTypes()));
        }
        for (Field field : RingTasks.class.getDeclaredFields()) {
            if (!Modifier.isPrivate(field.getModifiers())) {
                members.add(field.getType() + " " + field.getName());
            }
        }
        return String.join(", ", members);
    }

    private static String sharedNames() {
        TreeSet<String> names = new TreeSet<>();
        TreeSet<String> inside = new TreeSet<>();
        for (Method method : RingTasks.class.getDeclaredMethods()) {
            (Modifier.isPublic(method.getModifiers()) ? names : inside).add(method.getName());
        }
        for (Class<?> nested : RingTasks.class.getDeclaredClasses()) {
            for (Method method : nested.getDeclaredMethods()) {
                inside.add(method.getName());
            }
        }
        inside.retainAll(names);
        return String.join(", ", inside);
    }

    private static String types(Class<?>[] types) {
        StringBuilder told = new StringBuilder("(");
        for (Class<?> type : types) {
            told.append(told.length() == 1 ? "" : ",").append(type);
        }
        return told.append(")").toString();
    }

    private static String found(Pattern pattern, String text) {
        StringBuilder all = new StringBuilder();
        for (Matcher at = pattern.matcher(text); at.find(); ) {
            all.append(at.group());
        }
        return all.toString();
    }
}
