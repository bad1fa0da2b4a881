/** Wrong arguments of all sizes at every call: the refusal that the call names first, and nothing changes. */
public final class RefusalTest {
    private static final int[] WILD = {
        Integer.MIN_VALUE, Integer.MIN_VALUE + 1, -1000000000, -61, -32, -9, -1,
        61, 64, 1000000001, Integer.MAX_VALUE - 1, Integer.MAX_VALUE};
    private static final Check CHECK = new Check();

    public static void main(String[] args) {
        for (int wild : WILD) {
            RingTasks x = used();
            String before = Show.all(x);
            taskCalls(x, wild);
            ringCalls(x, wild);
            CHECK.dueText("all behind " + wild, Show.all(x), before);
        }
        CHECK.due("UNKNOWN", RingTasks.UNKNOWN, -1);
        CHECK.due("OUTSIDE", RingTasks.OUTSIDE, -2);
        CHECK.due("STATE", RingTasks.STATE, -3);
        CHECK.due("FULL", RingTasks.FULL, -4);
        CHECK.due("NONE", RingTasks.NONE, -9);
        CHECK.end();
    }

    private static RingTasks used() {
        RingTasks x = Show.of(6, "01 12 23 30 45 54 55");
        Show.put(x, "0123455501234555");
        x.number(3, 1000000000);
        x.number(4, 1000000000);
        return x;
    }

    private static void taskCalls(RingTasks x, int wild) {
        String with = " with " + wild;
        CHECK.due("labels" + with, x.labels(wild), -2);
        CHECK.due("allow" + with, x.allow(wild, 1, true), -1);
        CHECK.due("allow" + with, x.allow(1, wild, true), -1);
        CHECK.due("allow" + with, x.allow(wild, wild, true), -1);
        CHECK.due("may" + with, x.may(wild, 1), -1);
        CHECK.due("may" + with, x.may(1, wild), -1);
        CHECK.due("rings" + with, x.rings(wild), -2);
        CHECK.due("first" + with, x.first(wild, 0), -2);
        CHECK.due("first" + with, x.first(4, wild), -1);
        CHECK.due("first" + with, x.first(wild, wild), -2);
        CHECK.due("walks" + with, x.walks(wild, 0, 1), -1);
        CHECK.due("walks" + with, x.walks(0, wild, 1), -1);
        CHECK.due("walks" + with, x.walks(0, 0, wild), -2);
        CHECK.due("walks" + with, x.walks(wild, 0, wild), -1);
        CHECK.due("walks" + with, x.walks(0, wild, wild), -1);
        CHECK.due("block" + with, x.block(wild), -1);
        CHECK.due("pace" + with, x.pace(wild), -1);
        CHECK.due("free" + with, x.free(wild), -1);
    }

    private static void ringCalls(RingTasks x, int wild) {
        String with = " with " + wild;
        CHECK.due("ring" + with, x.ring(wild), -2);
        CHECK.due("put" + with, x.put(wild, 1), -1);
        CHECK.due("put" + with, x.put(1, wild), -1);
        CHECK.due("at" + with, x.at(wild), -1);
        CHECK.due("fault" + with, x.fault(wild), -1);
        CHECK.due("mend" + with, x.mend(wild), -1);
        CHECK.due("number" + with, x.number(wild, 1), -1);
        CHECK.due("number" + with, x.number(wild, -1), -1);
        if (wild < 0 || wild > 1000000000) {
            CHECK.due("number" + with, x.number(1, wild), -2);
        }
        CHECK.due("told" + with, x.told(wild), -1);
        CHECK.due("count" + with, x.count(wild), -2);
        CHECK.due("round", x.round(), -3);
        CHECK.due("colours", x.colours(), -3);
        CHECK.due("take", x.take(), -3);
    }
}
