/** Promises 1 to 14: a new object and the task. */
public final class TaskTest {
    private static final long MOST = 1000000000000000000L;
    private static final Check CHECK = new Check();

    public static void main(String[] args) {
        newObject();
        labels();
        allowAndMay();
        rings();
        first();
        walks();
        blocks();
        pace();
        kind();
        sure();
        free();
        mirrors();
        CHECK.end();
    }

    private static void newObject() {
        CHECK.dueText("a new object", Show.all(new RingTasks()), "12 02 01 / 000 / 0 1 2");
    }

    private static void labels() {
        RingTasks x = new RingTasks();
        Show.put(x, "0121");
        x.number(2, 77);
        x.allow(1, 1, true);
        x.allow(0, 1, false);
        CHECK.due("labels(6)", x.labels(6), 3);
        CHECK.dueText("after labels(6)", Show.all(x),
                "12345 02345 01345 01245 01235 01234 / 0000 / 0 1 77 3");
        CHECK.due("labels(1)", x.labels(1), 6);
        CHECK.dueText("after labels(1)", Show.task(x), "");
        x.allow(0, 0, true);
        CHECK.due("labels(1) again", x.labels(1), 1);
        CHECK.due("may(0, 0)", x.may(0, 0), 0);
        CHECK.due("labels(2)", x.labels(2), 1);
        CHECK.due("labels(0)", x.labels(0), RingTasks.OUTSIDE);
        CHECK.due("labels(7)", x.labels(7), RingTasks.OUTSIDE);
        x.put(3, 1);
        CHECK.due("labels(-1)", x.labels(-1), RingTasks.OUTSIDE);
        CHECK.dueText("after refusals", Show.all(x), "1 0 / 0001 / 0 1 77 3");
    }

    private static void allowAndMay() {
        RingTasks x = new RingTasks();
        CHECK.due("allow(0, 1, false)", x.allow(0, 1, false), 1);
        CHECK.due("allow(0, 1, false)", x.allow(0, 1, false), 0);
        CHECK.due("may(0, 1)", x.may(0, 1), 0);
        CHECK.due("may(1, 0)", x.may(1, 0), 1);
        CHECK.due("allow(2, 2, true)", x.allow(2, 2, true), 0);
        CHECK.due("allow(2, 2, true)", x.allow(2, 2, true), 1);
        CHECK.due("may(2, 2)", x.may(2, 2), 1);
        CHECK.due("allow(0, 1, true)", x.allow(0, 1, true), 0);
        for (int wrong : new int[] {-1, 3, 5, 6, 32, Integer.MIN_VALUE, Integer.MAX_VALUE}) {
            CHECK.due("allow(wrong, 0)", x.allow(wrong, 0, false), RingTasks.UNKNOWN);
            CHECK.due("allow(0, wrong)", x.allow(0, wrong, false), RingTasks.UNKNOWN);
            CHECK.due("may(wrong, 0)", x.may(wrong, 0), RingTasks.UNKNOWN);
            CHECK.due("may(0, wrong)", x.may(0, wrong), RingTasks.UNKNOWN);
        }
        CHECK.dueText("after refusals", Show.task(x), "12 02 012");
    }

    private static void rings() {
        RingTasks x = new RingTasks();
        CHECK.due("rings(1)", x.rings(1), 0);
        CHECK.due("rings(2)", x.rings(2), 6);
        CHECK.due("rings(3)", x.rings(3), 6);
        CHECK.due("rings(4)", x.rings(4), 18);
        CHECK.due("rings(59)", x.rings(59), (1L << 59) - 2);
        CHECK.due("rings(60)", x.rings(60), MOST);
        CHECK.due("rings(0)", x.rings(0), RingTasks.OUTSIDE);
        CHECK.due("rings(61)", x.rings(61), RingTasks.OUTSIDE);
        RingTasks loops = Show.of(6, "00 11 22");
        CHECK.due("rings(1) of loops", loops.rings(1), 3);
        CHECK.due("rings(60) of loops", loops.rings(60), 3);
        RingTasks all = Show.of(2, "00 01 10 11");
        CHECK.due("rings(59) of all of 2", all.rings(59), 1L << 59);
        CHECK.due("rings(60) of all of 2", all.rings(60), MOST);
        RingTasks six = new RingTasks();
        six.labels(6);
        CHECK.due("rings(25) of 6", six.rings(25), 298023223876953120L);
        CHECK.due("rings(26) of 6", six.rings(26), MOST);
        CHECK.due("rings(60) of 6", six.rings(60), MOST);
    }

    private static void first() {
        RingTasks x = new RingTasks();
        CHECK.dueText("first of 2", Show.first(x, 2), "01");
        CHECK.dueText("first of 4", Show.first(x, 4), "0101");
        CHECK.dueText("first of 5", Show.first(x, 5), "01012");
        CHECK.due("first(1, 0)", x.first(1, 0), RingTasks.NONE);
        CHECK.due("first(60, 59)", x.first(60, 59), 1);
        CHECK.dueText("of loops", Show.first(Show.of(4, "33 12 21"), 3), "333");
        CHECK.dueText("of loops and a pair", Show.first(Show.of(4, "33 12 21"), 4), "1212");
        CHECK.dueText("of a greedy way that ends", Show.first(Show.of(4, "01 12 02 20"), 3), "012");
        CHECK.dueText("of a greedy way that ends", Show.first(Show.of(4, "01 12 02 20"), 4), "0202");
        CHECK.due("first(0, 0)", x.first(0, 0), RingTasks.OUTSIDE);
        CHECK.due("first(61, 61)", x.first(61, 61), RingTasks.OUTSIDE);
        CHECK.due("first(61, -1)", x.first(61, -1), RingTasks.OUTSIDE);
        CHECK.due("first(5, 5)", x.first(5, 5), RingTasks.UNKNOWN);
        CHECK.due("first(5, -1)", x.first(5, -1), RingTasks.UNKNOWN);
        CHECK.due("first(1, 1)", x.first(1, 1), RingTasks.UNKNOWN);
    }

    private static void walks() {
        RingTasks x = new RingTasks();
        CHECK.due("walks(1, 1, 0)", x.walks(1, 1, 0), 1);
        CHECK.due("walks(1, 2, 0)", x.walks(1, 2, 0), 0);
        CHECK.due("walks(1, 1, 1)", x.walks(1, 1, 1), 0);
        CHECK.due("walks(1, 2, 1)", x.walks(1, 2, 1), 1);
        CHECK.due("walks(0, 0, 4)", x.walks(0, 0, 4), 6);
        RingTasks way = Show.of(3, "01 12");
        CHECK.due("walks(0, 2, 2) of a way", way.walks(0, 2, 2), 1);
        CHECK.due("walks(2, 0, 2) of a way", way.walks(2, 0, 2), 0);
        RingTasks all = Show.of(2, "00 01 10 11");
        CHECK.due("walks(0, 1, 60) of all of 2", all.walks(0, 1, 60), 1L << 59);
        RingTasks six = new RingTasks();
        six.labels(6);
        CHECK.due("walks(0, 0, 60) of 6", six.walks(0, 0, 60), MOST);
        CHECK.due("walks(0, 1, -1)", x.walks(0, 1, -1), RingTasks.OUTSIDE);
        CHECK.due("walks(0, 1, 61)", x.walks(0, 1, 61), RingTasks.OUTSIDE);
        CHECK.due("walks(3, 1, 61)", x.walks(3, 1, 61), RingTasks.UNKNOWN);
        CHECK.due("walks(0, -1, -1)", x.walks(0, -1, -1), RingTasks.UNKNOWN);
    }

    private static void blocks() {
        RingTasks x = Show.of(6, "04 43 30 12 21 25");
        CHECK.due("blocks()", x.blocks(), 3);
        int[] least = {0, 1, 1, 0, 0, 5};
        for (int a = 0; a < 6; a++) {
            CHECK.due("block(" + a + ")", x.block(a), least[a]);
        }
        CHECK.due("blocks() of a long circle", Show.of(6, "05 54 43 32 21 10").blocks(), 1);
        CHECK.due("block(5) of a long circle", Show.of(6, "05 54 43 32 21 10").block(5), 0);
        CHECK.due("blocks() of nothing", Show.of(6, "").blocks(), 6);
        CHECK.due("block(6)", x.block(6), RingTasks.UNKNOWN);
        CHECK.due("block(-1)", x.block(-1), RingTasks.UNKNOWN);
    }

    private static void pace() {
        RingTasks x = Show.of(6, "01 12 20 34 43 45");
        CHECK.due("pace(0)", x.pace(0), 3);
        CHECK.due("pace(3)", x.pace(3), 2);
        CHECK.due("pace(5)", x.pace(5), 0);
        CHECK.due("pace(0) of circles of 4 and 6", Show.of(6, "01 12 23 30 34 45 50").pace(0), 2);
        CHECK.due("pace(1) of circles of 2 and 3", Show.of(3, "01 10 12 20").pace(1), 1);
        CHECK.due("pace(0) of a circle of 6", Show.of(6, "01 12 23 34 45 50").pace(0), 6);
        CHECK.due("pace(0) of circles of 3 and 6", Show.of(6, "01 12 20 23 34 45 50").pace(0), 3);
        CHECK.due("pace(0) beside a loop", Show.of(2, "01 11").pace(0), 0);
        CHECK.due("pace(6)", x.pace(6), RingTasks.UNKNOWN);
        CHECK.due("pace(-1)", x.pace(-1), RingTasks.UNKNOWN);
    }

    private static void kind() {
        CHECK.due("kind() of nothing", Show.of(6, "").kind(), 0);
        CHECK.due("kind() of a way", Show.of(6, "01 12 23 34 45 05").kind(), 0);
        CHECK.due("kind() of a loop", Show.of(6, "01 12 55").kind(), 1);
        CHECK.due("kind() of a new object", new RingTasks().kind(), 2);
        CHECK.due("kind() of circles of 2 and 3 that meet", Show.of(4, "12 21 23 31").kind(), 2);
        CHECK.due("kind() of circles of 2 and 3 apart", Show.of(5, "01 10 23 34 42").kind(), 3);
        CHECK.due("kind() of a circle of 6", Show.of(6, "01 12 23 34 45 50").kind(), 3);
    }

    private static void sure() {
        CHECK.due("sure() of nothing", Show.of(6, "").sure(), RingTasks.NONE);
        CHECK.due("sure() of a loop", Show.of(6, "01 10 55").sure(), 1);
        CHECK.due("sure() of circles of 2 and 3 that meet", Show.of(3, "01 10 12 20").sure(), 2);
        CHECK.due("sure() of circles of 3 and 4", Show.of(4, "01 12 20 23 30").sure(), 6);
        CHECK.due("sure() of circles of 5 and 6", Show.of(6, "01 12 23 34 40 45 50").sure(), 20);
        CHECK.due("sure() of circles of 2 and 3 apart", Show.of(5, "01 10 23 34 42").sure(), RingTasks.NONE);
        CHECK.due("sure() of 3 and 4, and 2 apart", Show.of(6, "01 12 20 23 30 45 54").sure(), 6);
        CHECK.due("sure() before any LABEL is free", Show.of(5, "01 10 12 23 34 42 40").sure(), 2);
    }

    private static void free() {
        RingTasks x = Show.of(6, "01 12 23 34 40 45 50");
        CHECK.due("free(0) of circles of 5 and 6", x.free(0), 20);
        CHECK.due("free(5) of circles of 5 and 6", x.free(5), 26);
        CHECK.due("free(0) of a loop", Show.of(2, "00 01").free(0), 0);
        CHECK.due("free(1) ahead of a loop", Show.of(2, "00 10").free(1), RingTasks.NONE);
        CHECK.due("free(1) beside a loop", Show.of(2, "00 01 10").free(1), 2);
        CHECK.due("free(0) of a pair", Show.of(2, "01 10").free(0), RingTasks.NONE);
        CHECK.due("free(0) of 2 and 3 joined", Show.of(5, "01 10 12 23 34 42 40").free(0), 4);
        CHECK.due("free(2) of 2 and 3 joined", Show.of(5, "01 10 12 23 34 42 40").free(2), 5);
        CHECK.due("free(6)", x.free(6), RingTasks.UNKNOWN);
        CHECK.due("free(-1)", x.free(-1), RingTasks.UNKNOWN);
    }

    private static void mirrors() {
        CHECK.due("mirrors() of a new object", new RingTasks().mirrors(), 1);
        CHECK.due("mirrors() of a circle of 3", Show.of(3, "01 12 20").mirrors(), 0);
        CHECK.due("mirrors() of a way between blocks", Show.of(4, "01 10 12 23 32").mirrors(), 1);
        CHECK.due("mirrors() of one way round", Show.of(4, "01 10 12 23 32 30").mirrors(), 0);
        CHECK.due("mirrors() of nothing", Show.of(6, "").mirrors(), 1);
        CHECK.due("mirrors() of loops", Show.of(3, "00 01 12 22").mirrors(), 1);
    }
}
