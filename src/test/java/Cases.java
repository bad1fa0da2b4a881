import java.lang.reflect.InvocationTargetException;
import java.lang.reflect.Method;
import java.util.TreeMap;
import java.util.regex.Matcher;
import java.util.regex.Pattern;

/** Runs each case of a class: its static methods named promiseNN_case, each on objects of its own. */
final class Cases {
    private static final Pattern NAME = Pattern.compile("promise(\\d\\d)_\\w+");

    private Cases() {
    }

    /** Fails, too, if one of the promises from first to last has no case. */
    static void run(Class<?> tests, int first, int last) throws IllegalAccessException, InvocationTargetException {
        Check check = new Check();
        int[] cases = new int[28];
        for (Method method : byName(tests).values()) {
            Matcher name = NAME.matcher(method.getName());
            if (name.matches()) {
                cases[Integer.parseInt(name.group(1))]++;
                check.begin(method.getName());
                method.invoke(null, check);
            }
        }
        check.begin(tests.getName());
        for (int promise = first; promise <= last; promise++) {
            check.due("whether promise " + promise + " has cases", cases[promise] > 0 ? 1 : 0, 1);
        }
        check.end();
    }

    private static TreeMap<String, Method> byName(Class<?> tests) {
        TreeMap<String, Method> methods = new TreeMap<>();
        for (Method method : tests.getDeclaredMethods()) {
            methods.put(method.getName(), method);
        }
        return methods;
    }
}
