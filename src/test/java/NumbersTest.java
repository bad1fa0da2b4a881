/** Promises 22 to 27: numbers of posts. */
public final class NumbersTest {
    private static final Check CHECK = new Check();

    public static void main(String[] args) {
        numberAndTold();
        round();
        colours();
        take();
        count();
        CHECK.end();
    }

    private static void numberAndTold() {
        RingTasks x = new RingTasks();
        CHECK.due("number(2, 1000000000)", x.number(2, 1000000000), 2);
        CHECK.due("number(2, 0)", x.number(2, 0), 1000000000);
        CHECK.due("told(2)", x.told(2), 0);
        CHECK.due("number(2, -1)", x.number(2, -1), RingTasks.OUTSIDE);
        CHECK.due("number(2, 1000000001)", x.number(2, 1000000001), RingTasks.OUTSIDE);
        CHECK.due("number(3, -1)", x.number(3, -1), RingTasks.UNKNOWN);
        CHECK.due("number(-1, 5)", x.number(-1, 5), RingTasks.UNKNOWN);
        CHECK.due("told(3)", x.told(3), RingTasks.UNKNOWN);
        CHECK.due("told(-1)", x.told(-1), RingTasks.UNKNOWN);
        CHECK.dueText("after refusals", Show.all(x), "12 02 01 / 000 / 0 1 0");
    }

    private static void round() {
        RingTasks x = new RingTasks();
        Show.number(x, 12, 4, 6, 7, 8);
        CHECK.due("round()", x.round(), 7);
        CHECK.dueText("after round()", Show.numbers(x), "7 2 0 1 4");
        Show.number(x, 536870912, 0, 1);
        CHECK.due("round() of a high place", x.round(), 59);
        CHECK.dueText("after round()", Show.numbers(x), "59 0 1");
        Show.number(x, 1, 2, 3, 1);
        CHECK.due("round() of like ones at the end", x.round(), RingTasks.STATE);
        CHECK.dueText("numbers stay", Show.numbers(x), "1 2 3 1");
        Show.number(x, 1, 2, 2, 3);
        CHECK.due("round() of like ones within", x.round(), RingTasks.STATE);
        CHECK.dueText("labels and numbers stay", Show.all(x), "12 02 01 / 0000 / 1 2 2 3");
    }

    private static void colours() {
        RingTasks x = new RingTasks();
        Show.number(x, 5, 4, 3, 5, 0, 1, 3, 2);
        CHECK.due("colours() of few", x.colours(), 0);
        CHECK.dueText("after colours()", Show.numbers(x), "0 1 0 1 0 1 0 2");
        Show.number(x, 6, 0, 1);
        CHECK.due("colours() of 6", x.colours(), 1);
        CHECK.dueText("after colours()", Show.numbers(x), "2 0 1");
        Show.number(x, 536870912, 0, 536870912, 268435456, 0, 32);
        CHECK.due("colours() of high places", x.colours(), 4);
        CHECK.dueText("after colours()", Show.numbers(x), "0 1 0 1 0 2");
        Show.number(x, 3, 4, 3);
        CHECK.due("colours() of like ones at the end", x.colours(), RingTasks.STATE);
        CHECK.dueText("numbers stay", Show.numbers(x), "3 4 3");
        Show.number(x, 900, 900, 3);
        CHECK.due("colours() of like ones", x.colours(), RingTasks.STATE);
        CHECK.dueText("labels and numbers stay", Show.all(x), "12 02 01 / 000 / 900 900 3");
    }

    private static void take() {
        RingTasks x = new RingTasks();
        Show.number(x, 2, 2, 0, 1);
        CHECK.due("take()", x.take(), 1);
        CHECK.dueText("after take()", Show.all(x), "12 02 01 / 2201 / 2 2 0 1");
        x.number(3, 3);
        x.number(0, 0);
        CHECK.due("take() of 3", x.take(), RingTasks.STATE);
        CHECK.dueText("labels stay", Show.all(x), "12 02 01 / 2201 / 0 2 0 3");
        x.labels(4);
        CHECK.due("take() of 3 with 4 LABELS", x.take(), 1);
        CHECK.dueText("labels", Show.labels(x), "0203");
    }

    private static void count() {
        RingTasks x = new RingTasks();
        int[] atFirst = {3, 6, 3, 3, 0, 1};
        for (int what = 0; what < 6; what++) {
            CHECK.due("count(" + what + ") at first", x.count(what), atFirst[what]);
        }
        x.labels(5);
        x.allow(4, 4, true);
        x.allow(0, 1, false);
        x.allow(0, 2, false);
        Show.put(x, "0420400");
        int[] numbers = {7, 7, 2, 7, 7, 7, 7};
        for (int post = 0; post < 7; post++) {
            x.number(post, numbers[post]);
        }
        int[] later = {5, 19, 7, 2, 5, 3};
        for (int what = 0; what < 6; what++) {
            CHECK.due("count(" + what + ")", x.count(what), later[what]);
        }
        CHECK.due("count(6)", x.count(6), RingTasks.OUTSIDE);
        CHECK.due("count(-1)", x.count(-1), RingTasks.OUTSIDE);
        CHECK.due("count of much", x.count(Integer.MAX_VALUE), RingTasks.OUTSIDE);
    }
}
