import java.io.IOException;
import java.lang.reflect.Method;
import java.lang.reflect.Modifier;
import java.nio.file.Files;
import java.nio.file.Path;
import java.util.List;
import java.util.TreeSet;
import java.util.regex.Matcher;
import java.util.regex.Pattern;
import java.util.stream.Stream;

/** The calls that README.md shows answer what it says, and it shows every call and names every test. */
public final class ReadmeTest {
    private static final Pattern BLOCK = Pattern.compile("```java\\n(.*?)```", Pattern.DOTALL);
    private static final Pattern NEW_OBJECT = Pattern.compile("RingTasks x = new RingTasks\\(\\);\\s*(//.*)?");
    /** As in "x.kind();   // 2: a look at few posts is enough": the answer is a number or the name of a refusal. */
    private static final Pattern CALL = Pattern.compile("x\\.(\\w+\\([^)]*\\));\\s*// (-?\\d+|[A-Z]+)\\b.*");
    private static final Check CHECK = new Check();

    public static void main(String[] args) throws IOException {
        String text = Files.readString(Path.of("README.md"));
        TreeSet<String> shown = new TreeSet<>();
        for (Matcher block = BLOCK.matcher(text); block.find(); ) {
            answersAsShown(block.group(1).lines().toList(), shown);
        }
        CHECK.dueText("calls that README.md shows", shown.toString(), callsOfTheFace().toString());
        for (String test : tests()) {
            CHECK.due("whether README.md names " + test, text.contains("`" + test + "`") ? 1 : 0, 1);
        }
        CHECK.end();
    }

    private static void answersAsShown(List<String> lines, TreeSet<String> shown) {
        CHECK.due("whether a new object is made first: " + lines.get(0), NEW_OBJECT.matcher(lines.get(0)).matches() ? 1 : 0, 1);
        RingTasks x = new RingTasks();
        for (String line : lines.subList(1, lines.size())) {
            Matcher told = CALL.matcher(line);
            CHECK.due("whether a call and its answer stand in: " + line, told.matches() ? 1 : 0, 1);
            if (told.matches()) {
                Call call = Call.of(told.group(1));
                CHECK.due("README.md: " + line, call.on(x), answer(told.group(2)));
                shown.add(call.name());
            }
        }
    }

    private static long answer(String told) {
        return switch (told) {
            case "UNKNOWN" -> RingTasks.UNKNOWN;
            case "OUTSIDE" -> RingTasks.OUTSIDE;
            case "STATE" -> RingTasks.STATE;
            case "NONE" -> RingTasks.NONE;
            default -> Long.parseLong(told);
        };
    }

    private static TreeSet<String> callsOfTheFace() {
        TreeSet<String> names = new TreeSet<>();
        for (Method method : RingTasks.class.getDeclaredMethods()) {
            if (Modifier.isPublic(method.getModifiers())) {
                names.add(method.getName());
            }
        }
        return names;
    }

    private static List<String> tests() throws IOException {
        try (Stream<Path> files = Files.list(Path.of("src/test/java"))) {
            return files.map(file -> file.getFileName().toString().replace(".java", "")).sorted().toList();
        }
    }
}
