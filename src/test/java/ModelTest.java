import java.util.Random;

/** All promises: RingTasks against the Model, on tasks told in full and on runs of mixed calls. */
public final class ModelTest {
    private static final int RUNS = 3000;
    // With the calls before and behind them a run stays within the 512 that an object is used for.
    private static final int CALLS = 300;
    private static final Check CHECK = new Check();
    // With a seed, so that every run of the test asks the same.
    private static final Random RANDOM = new Random(20261116L);

    public static void main(String[] args) {
        for (int pairs = 0; pairs < 512; pairs++) {
            allOfATask(3, pairs);
        }
        for (int i = 0; i < 1500; i++) {
            int k = 4 + i % 3;
            long pairs = RANDOM.nextLong();
            // Few pairs make the long circles and the many blocks.
            for (int fewer = 0; fewer < i / 3 % 4; fewer++) {
                pairs &= RANDOM.nextLong();
            }
            allOfATask(k, pairs);
        }
        for (int run = 0; run < RUNS; run++) {
            mixedCalls(run);
        }
        CHECK.end();
    }

    private static void allOfATask(int k, long pairs) {
        RingTasks x = new RingTasks();
        Model m = new Model();
        x.labels(k);
        m.labels(k);
        for (int i = 0; i < k * k; i++) {
            boolean now = (pairs >> i & 1) == 1;
            x.allow(i / k, i % k, now);
            m.allow(i / k, i % k, now);
        }
        String task = k + " labels " + Show.task(x) + " ";
        CHECK.due(task + "blocks()", x.blocks(), m.blocks());
        CHECK.due(task + "kind()", x.kind(), m.kind());
        CHECK.due(task + "sure()", x.sure(), m.sure());
        CHECK.due(task + "mirrors()", x.mirrors(), m.mirrors());
        for (int a = 0; a < k; a++) {
            CHECK.due(task + "block(" + a + ")", x.block(a), m.block(a));
            CHECK.due(task + "pace(" + a + ")", x.pace(a), m.pace(a));
            CHECK.due(task + "free(" + a + ")", x.free(a), m.free(a));
        }
        for (int n : new int[] {1, 2, 3, 5, 26, 60}) {
            CHECK.due(task + "rings(" + n + ")", x.rings(n), m.rings(n));
            CHECK.due(task + "walks(0, 1, " + n + ")", x.walks(0, 1, n), m.walks(0, 1, n));
            CHECK.due(task + "first(" + n + ")", x.first(n, n / 2), m.first(n, n / 2));
        }
    }

    private static void mixedCalls(int run) {
        RingTasks x = new RingTasks();
        Model m = new Model();
        int k = 1 + RANDOM.nextInt(6);
        int n = RANDOM.nextInt(10) == 0 ? 60 : 3 + RANDOM.nextInt(12);
        CHECK.due("labels", x.labels(k), m.labels(k));
        CHECK.due("ring", x.ring(n), m.ring(n));
        int keep = RANDOM.nextInt(100);
        for (int i = 0; i < k * k; i++) {
            boolean now = RANDOM.nextInt(100) < keep;
            CHECK.due("allow", x.allow(i / k, i % k, now), m.allow(i / k, i % k, now));
        }
        for (int call = 0; call < CALLS; call++) {
            String where = "run " + run + " call " + call + ": ";
            if (RANDOM.nextInt(2) == 0) {
                taskCall(where, x, m);
            } else {
                ringCall(where, x, m);
            }
        }
        CHECK.dueText("run " + run + ": all", Show.all(x), told(m));
    }

    /** Now and then the bounds themselves and what lies just beyond. */
    private static int near(int from, int to) {
        int chance = RANDOM.nextInt(30);
        return chance == 0 ? from - 1 : chance == 1 ? to + 1 : chance == 2 ? from : chance == 3 ? to
                : from + RANDOM.nextInt(to - from + 1);
    }

    private static boolean in(int v, int from, int to) {
        return v >= from && v <= to;
    }

    private static void taskCall(String where, RingTasks x, Model m) {
        int top = m.k - 1;
        int a = near(0, top);
        int b = near(0, top);
        int n = near(1, RANDOM.nextInt(4) == 0 ? 60 : 9);
        boolean knowsA = in(a, 0, top);
        boolean knowsBoth = knowsA && in(b, 0, top);
        switch (RANDOM.nextInt(14)) {
            case 0 -> {
                if (RANDOM.nextInt(10) == 0) {
                    int k = near(1, 6);
                    CHECK.due(where + "labels " + k, x.labels(k), in(k, 1, 6) ? m.labels(k) : -2);
                }
            }
            case 1, 2 -> {
                boolean now = RANDOM.nextBoolean();
                CHECK.due(where + "allow", x.allow(a, b, now), knowsBoth ? m.allow(a, b, now) : -1);
            }
            case 3 -> CHECK.due(where + "may", x.may(a, b), !knowsBoth ? -1 : m.may[a][b] ? 1 : 0);
            case 4 -> CHECK.due(where + "rings " + n, x.rings(n), in(n, 1, 60) ? m.rings(n) : -2);
            case 5 -> {
                int i = near(0, Math.max(n, 1) - 1);
                long want = !in(n, 1, 60) ? -2 : !in(i, 0, n - 1) ? -1 : m.first(n, i);
                CHECK.due(where + "first " + n + " " + i, x.first(n, i), want);
            }
            case 6 -> {
                int t = n - 1;
                long want = !knowsBoth ? -1 : !in(t, 0, 60) ? -2 : m.walks(a, b, t);
                CHECK.due(where + "walks " + t, x.walks(a, b, t), want);
            }
            case 7 -> CHECK.due(where + "blocks", x.blocks(), m.blocks());
            case 8 -> CHECK.due(where + "block", x.block(a), knowsA ? m.block(a) : -1);
            case 9 -> CHECK.due(where + "pace", x.pace(a), knowsA ? m.pace(a) : -1);
            case 10 -> CHECK.due(where + "kind", x.kind(), m.kind());
            case 11 -> CHECK.due(where + "sure", x.sure(), m.sure());
            case 12 -> CHECK.due(where + "free", x.free(a), knowsA ? m.free(a) : -1);
            default -> CHECK.due(where + "mirrors", x.mirrors(), m.mirrors());
        }
    }

    private static void ringCall(String where, RingTasks x, Model m) {
        int last = m.label.length - 1;
        int post = near(0, last);
        boolean knows = in(post, 0, last);
        switch (RANDOM.nextInt(16)) {
            case 0 -> {
                if (RANDOM.nextInt(10) == 0) {
                    int n = near(3, RANDOM.nextInt(4) == 0 ? 60 : 12);
                    CHECK.due(where + "ring " + n, x.ring(n), in(n, 3, 60) ? m.ring(n) : -2);
                }
            }
            case 1, 2, 3 -> {
                int a = near(0, m.k - 1);
                CHECK.due(where + "put", x.put(post, a), knows && in(a, 0, m.k - 1) ? m.put(post, a) : -1);
            }
            case 4 -> CHECK.due(where + "at", x.at(post), knows ? m.label[post] : -1);
            case 5 -> CHECK.due(where + "faults", x.faults(), m.faults());
            case 6 -> CHECK.due(where + "fault", x.fault(post), knows ? m.fault(post) : -1);
            case 7, 8 -> CHECK.due(where + "mend", x.mend(post), knows ? m.mend(post) : -1);
            case 9 -> CHECK.due(where + "fresh", x.fresh(), m.fresh());
            case 10, 11 -> {
                int v = near(0, RANDOM.nextBoolean() ? 1000000000 : 6);
                long want = !knows ? -1 : !in(v, 0, 1000000000) ? -2 : m.number(post, v);
                CHECK.due(where + "number", x.number(post, v), want);
            }
            case 12 -> CHECK.due(where + "told", x.told(post), knows ? m.number[post] : -1);
            case 13 -> {
                boolean one = RANDOM.nextBoolean();
                CHECK.due(where + "round or colours", one ? x.round() : x.colours(), one ? m.round() : m.colours());
            }
            case 14 -> CHECK.due(where + "take", x.take(), m.take());
            default -> {
                int what = near(0, 5);
                CHECK.due(where + "count " + what, x.count(what), in(what, 0, 5) ? m.count(what) : -2);
            }
        }
    }

    private static String told(Model m) {
        StringBuilder all = new StringBuilder();
        for (int a = 0; a < m.k; a++) {
            all.append(a == 0 ? "" : " ");
            for (int b = 0; b < m.k; b++) {
                all.append(m.may[a][b] ? Integer.toString(b) : "");
            }
        }
        all.append(" / ");
        for (int a : m.label) {
            all.append(a);
        }
        all.append(" /");
        for (int v : m.number) {
            all.append(" ").append(v);
        }
        return all.toString();
    }
}
