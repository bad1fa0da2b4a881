import java.util.ArrayList;
import java.util.List;
import java.util.regex.Matcher;
import java.util.regex.Pattern;

/** A call of RingTasks told as a text, as in "allow(0, 2, false)", where false counts as 0 and true as 1. */
record Call(String name, int a, int b, int c) {
    static final List<String> OF_THE_TASK = List.of("labels", "allow", "may", "rings", "first", "walks",
            "blocks", "block", "pace", "kind", "sure", "free", "mirrors");
    static final List<String> OF_THE_RING = List.of("ring", "put", "at", "faults", "fault", "mend", "fresh");
    static final List<String> OF_NUMBERS = List.of("number", "told", "round", "colours", "take", "count");
    static final List<String> NAMES = joined(OF_THE_TASK, OF_THE_RING, OF_NUMBERS);

    private static final List<String> TAKES_NONE =
            List.of("blocks", "kind", "sure", "mirrors", "faults", "fresh", "round", "colours", "take");
    private static final List<String> TAKES_TWO = List.of("may", "first", "put", "number");
    private static final List<String> TAKES_THREE = List.of("allow", "walks");
    private static final Pattern TEXT = Pattern.compile("(\\w+)\\(([^)]*)\\)");

    private static List<String> joined(List<String> one, List<String> two, List<String> three) {
        List<String> all = new ArrayList<>(one);
        all.addAll(two);
        all.addAll(three);
        return List.copyOf(all);
    }

    private static int parameters(String name) {
        return TAKES_NONE.contains(name) ? 0 : TAKES_TWO.contains(name) ? 2 : TAKES_THREE.contains(name) ? 3 : 1;
    }

    static Call of(String text) {
        Matcher told = TEXT.matcher(text.trim());
        if (!told.matches() || !NAMES.contains(told.group(1))) {
            throw new IllegalArgumentException("no call of RingTasks: " + text);
        }
        String[] args = told.group(2).isBlank() ? new String[0] : told.group(2).split(",");
        if (args.length != parameters(told.group(1))) {
            throw new IllegalArgumentException("so many arguments are not taken: " + text);
        }
        int[] values = new int[3];
        for (int i = 0; i < args.length; i++) {
            String arg = args[i].trim();
            values[i] = arg.equals("true") ? 1 : arg.equals("false") ? 0 : Integer.parseInt(arg);
        }
        return new Call(told.group(1), values[0], values[1], values[2]);
    }

    /** All calls of a text, as in "ring(5) put(1, 2)". */
    static List<Call> run(String text) {
        List<Call> calls = new ArrayList<>();
        for (Matcher told = TEXT.matcher(text); told.find(); ) {
            calls.add(of(told.group()));
        }
        return calls;
    }

    /** A new object behind all calls of a text. */
    static RingTasks made(String text) {
        RingTasks x = new RingTasks();
        for (Call call : run(text)) {
            call.on(x);
        }
        return x;
    }

    long on(RingTasks x) {
        return switch (name) {
            case "labels" -> x.labels(a);
            case "allow" -> x.allow(a, b, c != 0);
            case "may" -> x.may(a, b);
            case "rings" -> x.rings(a);
            case "first" -> x.first(a, b);
            case "walks" -> x.walks(a, b, c);
            case "blocks" -> x.blocks();
            case "block" -> x.block(a);
            case "pace" -> x.pace(a);
            case "kind" -> x.kind();
            case "sure" -> x.sure();
            case "free" -> x.free(a);
            case "mirrors" -> x.mirrors();
            case "ring" -> x.ring(a);
            case "put" -> x.put(a, b);
            case "at" -> x.at(a);
            case "faults" -> x.faults();
            case "fault" -> x.fault(a);
            case "mend" -> x.mend(a);
            case "fresh" -> x.fresh();
            case "number" -> x.number(a, b);
            case "told" -> x.told(a);
            case "round" -> x.round();
            case "colours" -> x.colours();
            case "take" -> x.take();
            case "count" -> x.count(a);
            default -> throw new IllegalStateException(name);
        };
    }

    /** What the Model answers; it is asked only what the document does not refuse. */
    long on(Model m) {
        boolean labelA = in(a, 0, m.k - 1);
        boolean labelB = in(b, 0, m.k - 1);
        boolean post = in(a, 0, m.label.length - 1);
        return switch (name) {
            case "labels" -> in(a, 1, 6) ? m.labels(a) : RingTasks.OUTSIDE;
            case "allow" -> labelA && labelB ? m.allow(a, b, c != 0) : RingTasks.UNKNOWN;
            case "may" -> !labelA || !labelB ? RingTasks.UNKNOWN : m.may[a][b] ? 1 : 0;
            case "rings" -> in(a, 1, 60) ? m.rings(a) : RingTasks.OUTSIDE;
            case "first" -> !in(a, 1, 60) ? RingTasks.OUTSIDE : in(b, 0, a - 1) ? m.first(a, b) : RingTasks.UNKNOWN;
            case "walks" -> !labelA || !labelB ? RingTasks.UNKNOWN : in(c, 0, 60) ? m.walks(a, b, c) : RingTasks.OUTSIDE;
            case "blocks" -> m.blocks();
            case "block" -> labelA ? m.block(a) : RingTasks.UNKNOWN;
            case "pace" -> labelA ? m.pace(a) : RingTasks.UNKNOWN;
            case "kind" -> m.kind();
            case "sure" -> m.sure();
            case "free" -> labelA ? m.free(a) : RingTasks.UNKNOWN;
            case "mirrors" -> m.mirrors();
            case "ring" -> in(a, 3, 60) ? m.ring(a) : RingTasks.OUTSIDE;
            case "put" -> post && labelB ? m.put(a, b) : RingTasks.UNKNOWN;
            case "at" -> post ? m.label[a] : RingTasks.UNKNOWN;
            case "faults" -> m.faults();
            case "fault" -> post ? m.fault(a) : RingTasks.UNKNOWN;
            case "mend" -> post ? m.mend(a) : RingTasks.UNKNOWN;
            case "fresh" -> m.fresh();
            case "number" -> !post ? RingTasks.UNKNOWN : in(b, 0, 1000000000) ? m.number(a, b) : RingTasks.OUTSIDE;
            case "told" -> post ? m.number[a] : RingTasks.UNKNOWN;
            case "round" -> m.round();
            case "colours" -> m.colours();
            case "take" -> m.take();
            case "count" -> in(a, 0, 5) ? m.count(a) : RingTasks.OUTSIDE;
            default -> throw new IllegalStateException(name);
        };
    }

    private static boolean in(int v, int from, int to) {
        return v >= from && v <= to;
    }

    @Override
    public String toString() {
        String last = name.equals("allow") ? Boolean.toString(c != 0) : Integer.toString(c);
        String[] args = {Integer.toString(a), Integer.toString(b), last};
        return name + "(" + String.join(", ", List.of(args).subList(0, parameters(name))) + ")";
    }
}
