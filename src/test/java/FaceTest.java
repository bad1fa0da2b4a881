import java.lang.reflect.Constructor;
import java.lang.reflect.Field;
import java.lang.reflect.Method;
import java.lang.reflect.Modifier;
import java.util.List;
import java.util.TreeSet;

/** The public face is the document's and no more. */
public final class FaceTest {
    private static final List<String> CALLS = List.of(
            "int labels(int)", "int allow(int,int,boolean)", "int may(int,int)", "long rings(int)",
            "int first(int,int)", "long walks(int,int,int)", "int blocks()", "int block(int)",
            "int pace(int)", "int kind()", "int sure()", "int free(int)", "int mirrors()",
            "int ring(int)", "int put(int,int)", "int at(int)", "int faults()", "int fault(int)",
            "int mend(int)", "int fresh()", "int number(int,int)", "int told(int)", "int round()",
            "int colours()", "int take()", "int count(int)", "RingTasks()");
    private static final List<String> CONSTANTS =
            List.of("int UNKNOWN", "int OUTSIDE", "int STATE", "int FULL", "int NONE");
    private static final Check CHECK = new Check();

    public static void main(String[] args) {
        CHECK.dueText("the face", String.join(", ", face()), String.join(", ", due()));
        CHECK.due("public and final", RingTasks.class.getModifiers(), Modifier.PUBLIC | Modifier.FINAL);
        CHECK.end();
    }

    private static TreeSet<String> due() {
        TreeSet<String> members = new TreeSet<>();
        for (String call : CALLS) {
            members.add("public " + call);
        }
        for (String constant : CONSTANTS) {
            members.add("public static final " + constant);
        }
        return members;
    }

    private static TreeSet<String> face() {
        TreeSet<String> members = new TreeSet<>();
        for (Method method : RingTasks.class.getDeclaredMethods()) {
            if (!Modifier.isPrivate(method.getModifiers())) {
                members.add(Modifier.toString(method.getModifiers()) + " " + method.getReturnType() + " "
                        + method.getName() + types(method.getParameterTypes()));
            }
        }
        for (Constructor<?> made : RingTasks.class.getDeclaredConstructors()) {
            members.add(Modifier.toString(made.getModifiers()) + " RingTasks" + types(made.getParameterTypes()));
        }
        for (Field field : RingTasks.class.getDeclaredFields()) {
            if (!Modifier.isPrivate(field.getModifiers())) {
                members.add(Modifier.toString(field.getModifiers()) + " " + field.getType() + " " + field.getName());
            }
        }
        return members;
    }

    private static String types(Class<?>[] types) {
        StringBuilder told = new StringBuilder("(");
        for (Class<?> type : types) {
            told.append(told.length() == 1 ? "" : ",").append(type);
        }
        return told.append(")").toString();
    }
}
