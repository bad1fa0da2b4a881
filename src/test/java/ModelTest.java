import java.util.Random;

/** Promises 2 to 14: RingTasks against the Model, on all tasks of 3 LABELS and many of 4 to 6. */
public final class ModelTest {
    private static final Check CHECK = new Check();
    // With a seed, so that every run of the test asks the same.
    private static final Random RANDOM = new Random(20261116L);

    public static void main(String[] args) {
        for (int pairs = 0; pairs < 512; pairs++) {
            allOfATask(3, pairs);
        }
        for (int i = 0; i < 1500; i++) {
            int k = 4 + i % 3;
            long pairs = RANDOM.nextLong();
            // Few pairs make the long circles and the many blocks.
            for (int fewer = 0; fewer < i / 3 % 4; fewer++) {
                pairs &= RANDOM.nextLong();
            }
            allOfATask(k, pairs);
        }
        CHECK.end();
    }

    private static void allOfATask(int k, long pairs) {
        RingTasks x = new RingTasks();
        Model m = new Model();
        x.labels(k);
        m.labels(k);
        for (int i = 0; i < k * k; i++) {
            boolean now = (pairs >> i & 1) == 1;
            x.allow(i / k, i % k, now);
            m.allow(i / k, i % k, now);
        }
        String task = k + " labels " + Show.task(x) + " ";
        CHECK.due(task + "blocks()", x.blocks(), m.blocks());
        CHECK.due(task + "kind()", x.kind(), m.kind());
        CHECK.due(task + "sure()", x.sure(), m.sure());
        CHECK.due(task + "mirrors()", x.mirrors(), m.mirrors());
        for (int a = 0; a < k; a++) {
            CHECK.due(task + "block(" + a + ")", x.block(a), m.block(a));
            CHECK.due(task + "pace(" + a + ")", x.pace(a), m.pace(a));
            CHECK.due(task + "free(" + a + ")", x.free(a), m.free(a));
        }
        for (int n : new int[] {1, 2, 3, 5, 26, 60}) {
            CHECK.due(task + "rings(" + n + ")", x.rings(n), m.rings(n));
            CHECK.due(task + "walks(0, 1, " + n + ")", x.walks(0, 1, n), m.walks(0, 1, n));
            CHECK.due(task + "first(" + n + ")", x.first(n, n / 2), m.first(n, n / 2));
        }
    }
}
