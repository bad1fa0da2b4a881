import java.util.List;
import java.util.Random;
import java.util.TreeSet;

/** All promises: runs of mixed calls of all three parts on one object, each of the whole 512 calls. */
public final class MixedRunTest {
    private static final int RUNS = 1000;
    private static final int MOST_TO_ASK_ALL = 6 * 6 + 2 * 60 + 6;
    private static final Check CHECK = new Check();
    // With a seed, so that every run of the test asks the same.
    private static final Random RANDOM = new Random(20261116L);
    /** Which call, not refused, came right behind which other one that was not refused either. */
    private static final TreeSet<String> BEHIND = new TreeSet<>();

    public static void main(String[] args) {
        for (int run = 0; run < RUNS; run++) {
            twoSideBySide(run);
        }
        eachCallBehindEachOther();
        everySizeOfRing();
        changesOfAllPartsUpToTheLastCall();
        askedOverAndOver();
        CHECK.end();
    }

    // ---- runs against the Model

    /** Two objects, so that one which disturbs the other is found, too. */
    private static void twoSideBySide(int run) {
        Twin[] twins = {new Twin(CHECK, "run " + run + " a"), new Twin(CHECK, "run " + run + " b")};
        String[] last = {"", ""};
        begin(twins[0]);
        begin(twins[1]);
        while (twins[0].left() > MOST_TO_ASK_ALL && twins[1].left() > MOST_TO_ASK_ALL) {
            int which = RANDOM.nextInt(2);
            Call call = anyCall(twins[which].model);
            String now = isAnswered(call, twins[which].ask(call)) ? call.name() : "";
            if (!now.isEmpty() && !last[which].isEmpty()) {
                BEHIND.add(last[which] + " " + now);
            }
            last[which] = now;
        }
        for (Twin twin : twins) {
            twin.askAll();
            while (twin.left() > 0) {
                twin.ask(anyCall(twin.model));
            }
        }
    }

    /** Behind fresh there is no FAULT, so that there NONE is all that fault can tell. */
    private static boolean isAnswered(Call call, long answer) {
        return answer >= 0 || answer == RingTasks.NONE && call.name().equals("fault");
    }

    private static void begin(Twin twin) {
        int k = 1 + RANDOM.nextInt(6);
        twin.ask(new Call("labels", k, 0, 0));
        twin.ask(new Call("ring", RANDOM.nextInt(10) == 0 ? 60 : 3 + RANDOM.nextInt(12), 0, 0));
        int keep = RANDOM.nextInt(100);
        for (int i = 0; i < k * k; i++) {
            twin.ask(new Call("allow", i / k, i % k, RANDOM.nextInt(100) < keep ? 1 : 0));
        }
    }

    private static Call anyCall(Model m) {
        String name = anyName();
        int label = near(0, m.k - 1);
        int other = near(0, m.k - 1);
        int post = near(0, m.label.length - 1);
        int n = near(1, RANDOM.nextInt(4) == 0 ? 60 : 9);
        return switch (name) {
            case "labels" -> new Call(name, near(1, 6), 0, 0);
            case "allow" -> new Call(name, label, other, RANDOM.nextInt(2));
            case "may" -> new Call(name, label, other, 0);
            case "walks" -> new Call(name, label, other, n - 1);
            case "rings" -> new Call(name, n, 0, 0);
            case "first" -> new Call(name, n, near(0, Math.max(n, 1) - 1), 0);
            case "block", "pace", "free" -> new Call(name, label, 0, 0);
            case "ring" -> new Call(name, near(3, RANDOM.nextInt(4) == 0 ? 60 : 12), 0, 0);
            case "put" -> new Call(name, post, label, 0);
            case "at", "fault", "mend", "told" -> new Call(name, post, 0, 0);
            case "number" -> new Call(name, post, near(0, RANDOM.nextInt(3) == 0 ? 1000000000 : 6), 0);
            case "count" -> new Call(name, near(0, 5), 0, 0);
            default -> new Call(name, 0, 0, 0);
        };
    }

    /** Seldom the two that begin a part anew, so that the others have something to go on from. */
    private static String anyName() {
        String name = Call.NAMES.get(RANDOM.nextInt(Call.NAMES.size()));
        boolean anew = name.equals("labels") || name.equals("ring");
        return anew && RANDOM.nextInt(5) != 0 ? anyName() : name;
    }

    /** Now and then the bounds themselves and what lies just beyond. */
    private static int near(int from, int to) {
        int chance = RANDOM.nextInt(30);
        return chance == 0 ? from - 1 : chance == 1 ? to + 1 : chance == 2 ? from : chance == 3 ? to
                : from + RANDOM.nextInt(to - from + 1);
    }

    private static void eachCallBehindEachOther() {
        for (String first : Call.NAMES) {
            for (String second : Call.NAMES) {
                String pair = first + " " + second;
                CHECK.due("whether the runs have " + pair, BEHIND.contains(pair) ? 1 : 0, 1);
            }
        }
    }

    // ---- runs worked out by hand

    /** On one object, for each size: numbers become labels, the task begins anew, and they do so again. */
    private static void everySizeOfRing() {
        RingTasks x = new RingTasks();
        for (int n = 3; n <= 60; n++) {
            String of = " of " + n;
            CHECK.due("ring" + of, x.ring(n), n == 3 ? 3 : n - 1);
            CHECK.due("colours" + of, x.colours(), roundsOfANewRing(n));
            CHECK.due("take" + of, x.take(), 1);
            CHECK.due("faults behind take" + of, x.faults(), 0);
            CHECK.due("labels(3)" + of, x.labels(3), 3);
            CHECK.due("faults behind labels" + of, x.faults(), n);
            CHECK.due("take behind labels" + of, x.take(), 1);
            CHECK.due("faults behind take again" + of, x.faults(), 0);
        }
        // 464 calls so far: the next 48 are the last that are promised.
        for (int i = 0; i < 12; i++) {
            CHECK.due("allow", x.allow(0, 1, i % 2 == 1), i % 2 == 0 ? 1 : 0);
            CHECK.due("may", x.may(0, 1), i % 2);
            CHECK.due("count(2)", x.count(2), 60);
            CHECK.due("count(4)", x.count(4), 0);
        }
    }

    /**
     * The numbers 0, 1, 2, .. become 0 1 0 1 .. at once, but for the last POST, n - 1, which has POST 0's 0 behind
     * it and becomes 2 p + 1, p being how often 2 divides n - 1. With p = 3 (7) and p = 5 (11) a second ROUND leaves
     * at most 2; with p = 4 (9) it leaves a 6 ahead of the last POST, so that there is a third one.
     */
    private static int roundsOfANewRing(int n) {
        int p = Integer.numberOfTrailingZeros(n - 1);
        return n <= 6 ? 0 : p < 3 ? 1 : p == 4 ? 3 : 2;
    }

    /** 2 calls and 51 times 10: the last one is the 512th. */
    private static void changesOfAllPartsUpToTheLastCall() {
        RingTasks x = new RingTasks();
        CHECK.due("ring(4)", x.ring(4), 3);
        CHECK.due("fresh()", x.fresh(), 1);
        for (int v = 4; v < 55; v++) {
            CHECK.due("put(2, 1) on 0101", x.put(2, 1), 0);
            CHECK.due("faults() of 0111", x.faults(), 2);
            CHECK.due("number(3, v)", x.number(3, v), v - 1);
            CHECK.due("take() with " + v, x.take(), RingTasks.STATE);
            CHECK.due("allow(1, 1, true)", x.allow(1, 1, true), 0);
            CHECK.due("faults() behind it", x.faults(), 0);
            CHECK.due("allow(1, 1, false)", x.allow(1, 1, false), 1);
            CHECK.due("fault(0) behind it", x.fault(0), 1);
            CHECK.due("mend(2) to 0101", x.mend(2), 0);
            CHECK.due("told(3)", x.told(3), v);
        }
    }

    /** 8 calls and 21 times 24: asked again, each answers what it did. */
    private static void askedOverAndOver() {
        Twin twin = new Twin(CHECK, "asked over and over");
        askEach(twin, Call.run("labels(4) ring(5) allow(0, 0, true) allow(3, 1, false) put(1, 2) put(3, 3) "
                + "number(2, 77) number(4, 77)"));
        List<Call> asked = Call.run("may(0, 0) may(3, 1) rings(5) rings(60) first(5, 4) walks(0, 3, 9) walks(0, 0, 60) "
                + "blocks() block(2) pace(1) kind() sure() free(2) mirrors() at(1) faults() fault(4) told(2) "
                + "count(0) count(1) count(2) count(3) count(4) count(5)");
        for (int time = 0; time < 21; time++) {
            askEach(twin, asked);
        }
        CHECK.due("calls left", twin.left(), 0);
    }

    private static void askEach(Twin twin, List<Call> calls) {
        for (Call call : calls) {
            twin.ask(call);
        }
    }
}
