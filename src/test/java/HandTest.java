/** Promises 15 to 21: the ring at hand. */
public final class HandTest {
    private static final Check CHECK = new Check();

    public static void main(String[] args) {
        ring();
        putAndAt();
        faults();
        fault();
        mend();
        mendTheWholeRing();
        fresh();
        CHECK.end();
    }

    private static void ring() {
        RingTasks x = new RingTasks();
        x.allow(0, 1, false);
        x.put(1, 2);
        x.number(1, 9);
        CHECK.due("ring(2)", x.ring(2), RingTasks.OUTSIDE);
        CHECK.due("ring(61)", x.ring(61), RingTasks.OUTSIDE);
        CHECK.due("ring(-1)", x.ring(-1), RingTasks.OUTSIDE);
        CHECK.dueText("after refusals", Show.all(x), "2 02 01 / 020 / 0 9 2");
        CHECK.due("ring(5)", x.ring(5), 3);
        CHECK.dueText("after ring(5)", Show.all(x), "2 02 01 / 00000 / 0 1 2 3 4");
        x.put(4, 1);
        CHECK.due("ring(60)", x.ring(60), 5);
        CHECK.due("told(59)", x.told(59), 59);
        CHECK.due("at(4)", x.at(4), 0);
        x.put(59, 1);
        CHECK.due("ring(3)", x.ring(3), 60);
        CHECK.due("ring(60)", x.ring(60), 3);
        CHECK.due("at(59)", x.at(59), 0);
    }

    private static void putAndAt() {
        RingTasks x = new RingTasks();
        CHECK.due("put(2, 1)", x.put(2, 1), 0);
        CHECK.due("put(2, 2)", x.put(2, 2), 1);
        CHECK.due("at(2)", x.at(2), 2);
        for (int wrong : new int[] {-1, 3, 60, Integer.MIN_VALUE, Integer.MAX_VALUE}) {
            CHECK.due("put(wrong, 1)", x.put(wrong, 1), RingTasks.UNKNOWN);
            CHECK.due("put(1, wrong)", x.put(1, wrong), RingTasks.UNKNOWN);
            CHECK.due("at(wrong)", x.at(wrong), RingTasks.UNKNOWN);
        }
        CHECK.dueText("after refusals", Show.labels(x), "002");
    }

    private static void faults() {
        RingTasks x = Show.of(3, "01 12 20");
        Show.put(x, "012012");
        CHECK.due("faults()", x.faults(), 0);
        x.put(5, 0);
        CHECK.due("faults()", x.faults(), 2);
        Show.put(x, "210");
        CHECK.due("faults() the other way round", x.faults(), 3);
    }

    private static void fault() {
        RingTasks x = new RingTasks();
        Show.put(x, "010122");
        CHECK.due("fault(0)", x.fault(0), 4);
        CHECK.due("fault(4)", x.fault(4), 4);
        CHECK.due("fault(5)", x.fault(5), 4);
        Show.put(x, "010120");
        CHECK.due("fault(0) at the end", x.fault(0), 5);
        x.put(5, 2);
        x.put(4, 0);
        CHECK.due("fault(0) of none", x.fault(0), RingTasks.NONE);
        CHECK.due("fault(5) of none", x.fault(5), RingTasks.NONE);
        CHECK.due("fault(6)", x.fault(6), RingTasks.UNKNOWN);
        CHECK.due("fault(-1)", x.fault(-1), RingTasks.UNKNOWN);
    }

    private static void mend() {
        RingTasks x = new RingTasks();
        Show.put(x, "020202");
        CHECK.due("mend(3) of what is good", x.mend(3), 0);
        CHECK.dueText("it becomes the first way", Show.labels(x), "020102");
        RingTasks circle = Show.of(3, "01 12 20");
        Show.put(circle, "0010000");
        CHECK.due("mend(0) round the end", circle.mend(0), 1);
        CHECK.dueText("labels", Show.labels(circle), "2010001");
        Show.put(circle, "0000");
        CHECK.due("mend(1) of 4", circle.mend(1), RingTasks.NONE);
        CHECK.dueText("labels stay", Show.labels(circle), "0000");
        RingTasks two = Show.of(2, "01 10");
        Show.put(two, "000000");
        CHECK.due("mend(5) of 6", two.mend(5), 0);
        CHECK.dueText("labels", Show.labels(two), "000001");
        Show.put(two, "01011010");
        CHECK.due("mend(3) of 8", two.mend(3), 3);
        CHECK.dueText("labels", Show.labels(two), "10101010");
        CHECK.due("mend(8)", two.mend(8), RingTasks.UNKNOWN);
        CHECK.due("mend(-1)", two.mend(-1), RingTasks.UNKNOWN);
        RingTasks wide = new RingTasks();
        wide.ring(60);
        wide.labels(1);
        CHECK.due("mend(59) of no pair", wide.mend(59), RingTasks.NONE);
    }

    private static void mendTheWholeRing() {
        RingTasks x = Show.of(4, "12 23 31");
        x.ring(3);
        CHECK.due("mend(1) of 3", x.mend(1), 1);
        CHECK.dueText("labels", Show.labels(x), "123");
        x.ring(3);
        CHECK.due("mend(0) of 3", x.mend(0), 1);
        CHECK.dueText("told from the farthest POST ahead", Show.labels(x), "231");
        x.ring(9);
        CHECK.due("mend(8) of 9", x.mend(8), 4);
        CHECK.dueText("labels", Show.labels(x), "312312312");
        x.ring(7);
        CHECK.due("mend(3) of 7", x.mend(3), RingTasks.NONE);
        x.ring(8);
        CHECK.due("mend(3) of 8", x.mend(3), RingTasks.NONE);
        CHECK.dueText("labels stay", Show.labels(x), "00000000");
    }

    private static void fresh() {
        RingTasks x = new RingTasks();
        Show.put(x, "2222222");
        x.number(0, 50);
        CHECK.due("fresh()", x.fresh(), 1);
        CHECK.dueText("after fresh()", Show.all(x), "12 02 01 / 0101012 / 50 1 2 3 4 5 6");
        RingTasks circle = Show.of(3, "01 12 20");
        Show.put(circle, "11221122");
        CHECK.due("fresh() of none", circle.fresh(), RingTasks.NONE);
        CHECK.dueText("labels stay", Show.labels(circle), "11221122");
        circle.ring(60);
        CHECK.due("fresh() of 60", circle.fresh(), 1);
        CHECK.due("at(59)", circle.at(59), 2);
        CHECK.due("faults()", circle.faults(), 0);
    }
}
