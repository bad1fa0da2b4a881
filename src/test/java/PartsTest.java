import java.util.List;
import java.util.TreeSet;

/** Promises 2 to 27: what a call of one part (task, ring at hand, numbers) changes in the others, and what it leaves. */
public final class PartsTest {
    private static final List<String> PARTS = List.of("task", "posts", "labels", "numbers");
    private static final String NOTHING = "";

    /** A new object; many LABELS; 0 1 2 alone on 7 POSTS; no GOOD RING and like NUMBERS; NUMBERS to take; one LABEL. */
    private static final List<String> STATES = List.of(
            "",
            "labels(6) ring(8) allow(0, 0, true) allow(2, 5, false) put(1, 5) put(2, 3) put(7, 4) "
                    + "number(3, 1000000000) number(5, 3)",
            "allow(0, 2, false) allow(1, 0, false) allow(2, 1, false) ring(7) put(3, 2) put(4, 1) number(0, 6) number(6, 8)",
            "labels(2) ring(4) allow(0, 1, false) put(0, 1) number(0, 1)",
            "labels(4) ring(5) put(0, 3) number(2, 0) number(4, 1)",
            "labels(1) ring(3) allow(0, 0, true) number(1, 0) number(2, 0)");

    private static final String TASK_ASKED = "may(0, 0) rings(60) first(59, 3) first(60, 0) walks(0, 0, 60) blocks() "
            + "block(0) pace(0) kind() sure() free(0) mirrors() ";
    private static final String TASK_CHANGED = "allow(0, 0, true) allow(1, 0, false) ";
    private static final String RING_ASKED = "at(1) faults() fault(0) ";
    private static final String RING_CHANGED = "put(0, 0) put(2, 1) mend(1) fresh() ";
    private static final String NUMBERS_ASKED = "told(2) count(0) count(1) count(2) count(3) count(4) count(5) ";
    private static final String NUMBERS_CHANGED = "number(1, 12345) number(2, 7) round() number(0, 999) colours() ";
    private static final String NOT_THE_TASK = RING_ASKED + RING_CHANGED + NUMBERS_ASKED + NUMBERS_CHANGED
            + "take() ring(9) put(8, 0) fresh() mend(8) ";
    private static final String NOT_LABELS = TASK_ASKED + RING_ASKED + NUMBERS_ASKED + NUMBERS_CHANGED;
    private static final String NOT_NUMBERS = TASK_ASKED + TASK_CHANGED + RING_ASKED + RING_CHANGED + NUMBERS_ASKED
            + "take() labels(5) put(1, 4) allow(4, 4, true) mend(0) ";

    public static void main(String[] args) throws ReflectiveOperationException {
        Cases.run(PartsTest.class, 2, 27);
    }

    private static String part(String name, RingTasks x) {
        return switch (name) {
            case "task" -> x.count(0) + ": " + Show.task(x);
            case "posts" -> Integer.toString(x.count(2));
            case "labels" -> Show.labels(x);
            case "numbers" -> Show.numbers(x);
            default -> throw new IllegalStateException(name);
        };
    }

    /** In every state the calls leave all parts but the named ones; each named one does change somewhere. */
    private static void changesJust(Check check, String named, String calls) {
        TreeSet<String> changed = new TreeSet<>();
        for (String state : STATES) {
            for (Call call : Call.run(calls)) {
                RingTasks x = Call.made(state);
                call.on(x);
                for (String part : PARTS) {
                    String before = part(part, Call.made(state));
                    String now = part(part, x);
                    if (!now.equals(before)) {
                        changed.add(part);
                    }
                    if (!named.contains(part)) {
                        check.dueText(part + " of [" + state + "] behind " + call, now, before);
                    }
                }
            }
        }
        for (String part : PARTS) {
            check.due("whether " + part + " changed", changed.contains(part) ? 1 : 0, named.contains(part) ? 1 : 0);
        }
    }

    /** In every state a call answers the same with and without the others ahead of it. */
    private static void sameBehind(Check check, String others, String calls) {
        for (String state : STATES) {
            for (Call call : Call.run(calls)) {
                long alone = call.on(Call.made(state));
                check.due(call + " in [" + state + "] behind others", call.on(Call.made(state + others)), alone);
            }
        }
    }

    /** In every state a call leaves the same in a part with and without the others ahead of it. */
    private static void leavesTheSameBehind(Check check, String others, String part, String call) {
        for (String state : STATES) {
            RingTasks alone = Call.made(state + call);
            RingTasks behind = Call.made(state + others + call);
            check.dueText(part + " in [" + state + "] behind others and " + call, part(part, behind), part(part, alone));
        }
    }

    // ---- promise 2: labels

    static void promise02_changesTaskAndLabels(Check check) {
        changesJust(check, "task labels", "labels(1) labels(2) labels(3) labels(4) labels(6)");
    }

    static void promise02_refusedLeavesAll(Check check) {
        changesJust(check, NOTHING, "labels(0) labels(7) labels(-1)");
    }

    static void promise02_numbersStayToBeTakenAgain(Check check) {
        RingTasks x = Call.made("labels(4) ring(4)");
        check.due("take()", x.take(), 1);
        check.dueText("labels", Show.labels(x), "0123");
        check.due("labels(6)", x.labels(6), 4);
        check.dueText("labels behind labels", Show.labels(x), "0000");
        check.dueText("numbers behind labels", Show.numbers(x), "0 1 2 3");
        check.due("take() again", x.take(), 1);
        check.dueText("labels behind take", Show.labels(x), "0123");
    }

    static void promise02_withFewerANumberIsNoLabelMore(Check check) {
        RingTasks x = new RingTasks();
        x.labels(2);
        check.due("take() of 0 1 2 with 2", x.take(), RingTasks.STATE);
        check.due("put(0, 2) with 2", x.put(0, 2), RingTasks.UNKNOWN);
        x.labels(3);
        check.due("put(0, 2) with 3", x.put(0, 2), 0);
        check.due("take() of 0 1 2 with 3", x.take(), 1);
        check.dueText("labels", Show.labels(x), "012");
    }

    static void promise02_ringIsMendedByTheNewTask(Check check) {
        RingTasks x = Call.made("ring(5)");
        x.labels(2);
        check.due("fresh() of 5 with 2", x.fresh(), RingTasks.NONE);
        check.due("mend(0) of 5 with 2", x.mend(0), 0);
        check.dueText("labels", Show.labels(x), "10000");
        x.labels(3);
        check.due("fresh() of 5 with 3", x.fresh(), 1);
        check.dueText("labels", Show.labels(x), "01012");
    }

    static void promise02_forgetsWhatWasAllowed(Check check) {
        RingTasks x = Call.made("allow(0, 0, true) allow(0, 1, false)");
        check.due("faults()", x.faults(), 0);
        check.due("labels(3)", x.labels(3), 3);
        check.due("faults() behind labels", x.faults(), 3);
        check.due("fresh()", x.fresh(), 1);
        check.dueText("labels", Show.labels(x), "012");
    }

    // ---- promise 3: allow

    static void promise03_changesTheTaskAlone(Check check) {
        changesJust(check, "task", "allow(0, 0, true) allow(0, 0, false) allow(0, 1, false) allow(1, 0, true) allow(1, 1, true)");
    }

    static void promise03_refusedLeavesAll(Check check) {
        changesJust(check, NOTHING, "allow(6, 0, true) allow(0, 6, true) allow(-1, 0, false) allow(0, -1, false)");
    }

    static void promise03_faultsGoByIt(Check check) {
        RingTasks x = Call.made("ring(4)");
        check.due("faults()", x.faults(), 4);
        check.due("allow(0, 0, true)", x.allow(0, 0, true), 0);
        check.due("faults() with 0 behind 0", x.faults(), 0);
        check.due("fault(2) with 0 behind 0", x.fault(2), RingTasks.NONE);
        check.due("allow(0, 0, false)", x.allow(0, 0, false), 1);
        check.due("faults() without", x.faults(), 4);
        check.due("fault(2) without", x.fault(2), 2);
    }

    static void promise03_mendAndFreshGoByIt(Check check) {
        RingTasks x = Call.made("ring(5) allow(0, 0, true)");
        check.due("mend(2) with 0 behind 0", x.mend(2), 0);
        check.dueText("labels", Show.labels(x), "00000");
        x.allow(0, 0, false);
        check.due("mend(2) without", x.mend(2), 0);
        check.dueText("labels", Show.labels(x), "00100");
        x.allow(1, 0, false);
        check.due("fresh() without 0 behind 1", x.fresh(), 1);
        check.dueText("labels", Show.labels(x), "01202");
    }

    // ---- promises 4 to 14: what is asked of the task

    static void promise04_asksOfTheTaskAlone(Check check) {
        asksOfTheTask(check, "may(0, 0) may(0, 1) may(1, 0) may(2, 5) may(6, 0)");
    }

    static void promise05_asksOfTheTaskAlone(Check check) {
        asksOfTheTask(check, "rings(1) rings(2) rings(7) rings(60) rings(0) rings(61)");
    }

    static void promise06_asksOfTheTaskAlone(Check check) {
        asksOfTheTask(check, "first(1, 0) first(7, 6) first(8, 3) first(60, 59) first(61, 0) first(7, 7)");
    }

    static void promise07_asksOfTheTaskAlone(Check check) {
        asksOfTheTask(check, "walks(0, 0, 0) walks(0, 1, 5) walks(0, 0, 60) walks(6, 0, 1) walks(0, 0, 61)");
    }

    static void promise08_asksOfTheTaskAlone(Check check) {
        asksOfTheTask(check, "blocks()");
    }

    static void promise09_asksOfTheTaskAlone(Check check) {
        asksOfTheTask(check, "block(0) block(1) block(3) block(6)");
    }

    static void promise10_asksOfTheTaskAlone(Check check) {
        asksOfTheTask(check, "pace(0) pace(1) pace(3) pace(6)");
    }

    static void promise11_asksOfTheTaskAlone(Check check) {
        asksOfTheTask(check, "kind()");
    }

    static void promise12_asksOfTheTaskAlone(Check check) {
        asksOfTheTask(check, "sure()");
    }

    static void promise13_asksOfTheTaskAlone(Check check) {
        asksOfTheTask(check, "free(0) free(1) free(3) free(6)");
    }

    static void promise14_asksOfTheTaskAlone(Check check) {
        asksOfTheTask(check, "mirrors()");
    }

    private static void asksOfTheTask(Check check, String calls) {
        changesJust(check, NOTHING, calls);
        sameBehind(check, TASK_ASKED + NOT_THE_TASK, calls);
    }

    // ---- promise 15: ring

    static void promise15_changesPostsLabelsAndNumbers(Check check) {
        changesJust(check, "posts labels numbers", "ring(3) ring(4) ring(8) ring(60)");
    }

    static void promise15_refusedLeavesAll(Check check) {
        changesJust(check, NOTHING, "ring(2) ring(61) ring(-1)");
    }

    static void promise15_postsOfAllPartsComeAndGo(Check check) {
        RingTasks x = Call.made("ring(5) put(4, 2) number(4, 9)");
        x.ring(4);
        for (Call call : Call.run("put(4, 0) at(4) fault(4) mend(4) number(4, 1) told(4)")) {
            check.due(call.toString(), call.on(x), RingTasks.UNKNOWN);
        }
        x.ring(5);
        check.due("at(4)", x.at(4), 0);
        check.due("told(4)", x.told(4), 4);
    }

    static void promise15_theNewRingStandsByTheOldTask(Check check) {
        RingTasks x = Call.made("labels(2) allow(0, 0, true) ring(60)");
        check.due("count(0)", x.count(0), 2);
        check.due("faults()", x.faults(), 0);
        check.due("put(30, 2)", x.put(30, 2), RingTasks.UNKNOWN);
        check.due("take()", x.take(), RingTasks.STATE);
    }

    static void promise15_whatWasTakenAndColouredIsForgotten(Check check) {
        RingTasks x = Call.made("ring(7) colours() take()");
        x.ring(7);
        check.dueText("labels", Show.labels(x), "0000000");
        check.dueText("numbers", Show.numbers(x), "0 1 2 3 4 5 6");
    }

    // ---- promise 16: put

    static void promise16_changesLabelsAlone(Check check) {
        changesJust(check, "labels", "put(0, 0) put(1, 1) put(2, 1) put(2, 2)");
    }

    static void promise16_refusedLeavesAll(Check check) {
        changesJust(check, NOTHING, "put(8, 0) put(-1, 0) put(0, 6) put(0, -1)");
    }

    static void promise16_whatIsPutStaysUntilNumbersAreTaken(Check check) {
        RingTasks x = Call.made("ring(4)");
        check.due("put(1, 2)", x.put(1, 2), 0);
        check.due("told(1)", x.told(1), 1);
        check.due("take() of 0 1 2 3", x.take(), RingTasks.STATE);
        check.dueText("labels", Show.labels(x), "0200");
        check.due("number(3, 1)", x.number(3, 1), 3);
        check.dueText("labels behind number", Show.labels(x), "0200");
        check.due("take() of 0 1 2 1", x.take(), 1);
        check.due("put(1, 0) on 0121", x.put(1, 0), 1);
        check.dueText("labels behind put", Show.labels(x), "0021");
        check.dueText("numbers behind put", Show.numbers(x), "0 1 2 1");
    }

    // ---- promises 17 to 19: at, faults, fault

    static void promise17_asksOfLabelsAlone(Check check) {
        changesJust(check, NOTHING, "at(0) at(2) at(-1) at(8)");
        sameBehind(check, NOT_LABELS, "at(0) at(1) at(2) at(3) at(7) at(8)");
    }

    static void promise18_asksOfTaskAndLabelsAlone(Check check) {
        changesJust(check, NOTHING, "faults()");
        sameBehind(check, NOT_LABELS, "faults()");
    }

    static void promise19_asksOfTaskAndLabelsAlone(Check check) {
        changesJust(check, NOTHING, "fault(0) fault(2) fault(-1) fault(8)");
        sameBehind(check, NOT_LABELS, "fault(0) fault(1) fault(2) fault(3) fault(7) fault(8)");
    }

    // ---- promise 20: mend

    static void promise20_changesLabelsAlone(Check check) {
        changesJust(check, "labels", "mend(0) mend(1) mend(2)");
    }

    static void promise20_refusedLeavesAll(Check check) {
        changesJust(check, NOTHING, "mend(-1) mend(8)");
    }

    static void promise20_noneLeavesAll(Check check) {
        RingTasks x = Call.made("labels(2) allow(0, 1, false) ring(5) put(3, 1) number(2, 50)");
        check.due("mend(3)", x.mend(3), RingTasks.NONE);
        check.dueText("all", Show.all(x), " 0 / 00010 / 0 1 50 3 4");
    }

    static void promise20_goesByTaskAndLabelsAlone(Check check) {
        sameBehind(check, NOT_LABELS, "mend(0) mend(1) mend(2)");
        leavesTheSameBehind(check, NOT_LABELS, "labels", "mend(1)");
    }

    static void promise20_mendsWhatWasTakenAndLeavesTheNumbers(Check check) {
        RingTasks x = Call.made("labels(4) ring(4) number(2, 1) take()");
        check.dueText("labels behind take", Show.labels(x), "0113");
        check.due("fault(0)", x.fault(0), 1);
        check.due("mend(2)", x.mend(2), 0);
        check.dueText("labels behind mend", Show.labels(x), "0103");
        check.dueText("numbers behind mend", Show.numbers(x), "0 1 1 3");
        check.due("take() again", x.take(), 1);
        check.dueText("labels behind take again", Show.labels(x), "0113");
    }

    // ---- promise 21: fresh

    static void promise21_changesLabelsAlone(Check check) {
        changesJust(check, "labels", "fresh()");
    }

    static void promise21_goesByTaskAndPostsAlone(Check check) {
        String others = NOT_LABELS + RING_CHANGED + "take() ";
        sameBehind(check, others, "fresh()");
        // Of a ring on which fresh answers 1: where it answers NONE, the others tell what the LABELS are.
        RingTasks x = Call.made("ring(6) " + others + "fresh()");
        check.dueText("labels", Show.labels(x), "010101");
    }

    static void promise21_noneLeavesAll(Check check) {
        RingTasks x = Call.made("labels(2) ring(5) put(3, 1) number(2, 50)");
        check.due("fresh()", x.fresh(), RingTasks.NONE);
        check.dueText("all", Show.all(x), "1 0 / 00010 / 0 1 50 3 4");
    }

    static void promise21_colouringBetweenLeavesItAsItIs(Check check) {
        RingTasks x = Call.made("ring(4) fresh()");
        check.dueText("labels behind fresh", Show.labels(x), "0101");
        check.dueText("numbers behind fresh", Show.numbers(x), "0 1 2 3");
        check.due("colours()", x.colours(), 0);
        check.dueText("labels behind colours", Show.labels(x), "0101");
        check.due("take() of 0 1 2 1", x.take(), 1);
        check.dueText("labels behind take", Show.labels(x), "0121");
        check.due("fresh()", x.fresh(), 1);
        check.dueText("labels behind fresh again", Show.labels(x), "0101");
        check.dueText("numbers behind fresh again", Show.numbers(x), "0 1 2 1");
    }

    // ---- promise 22: number

    static void promise22_changesNumbersAlone(Check check) {
        changesJust(check, "numbers", "number(0, 0) number(1, 2) number(2, 1000000000)");
    }

    static void promise22_refusedLeavesAll(Check check) {
        changesJust(check, NOTHING, "number(-1, 0) number(8, 0) number(0, -1) number(0, 1000000001)");
    }

    static void promise22_likeNumbersStopRoundsButNotTake(Check check) {
        RingTasks x = new RingTasks();
        check.due("number(1, 0)", x.number(1, 0), 1);
        check.due("round()", x.round(), RingTasks.STATE);
        check.due("colours()", x.colours(), RingTasks.STATE);
        check.dueText("labels", Show.labels(x), "000");
        check.due("take()", x.take(), 1);
        check.dueText("labels behind take", Show.labels(x), "002");
        check.due("faults()", x.faults(), 1);
        check.dueText("numbers", Show.numbers(x), "0 0 2");
    }

    // ---- promise 23: told

    static void promise23_asksOfNumbersAlone(Check check) {
        changesJust(check, NOTHING, "told(0) told(2) told(-1) told(8)");
        sameBehind(check, NOT_NUMBERS, "told(0) told(1) told(2) told(3) told(7) told(8)");
    }

    // ---- promise 24: round

    static void promise24_changesNumbersAlone(Check check) {
        changesJust(check, "numbers", "round()");
    }

    static void promise24_goesByNumbersAlone(Check check) {
        sameBehind(check, NOT_NUMBERS, "round()");
        leavesTheSameBehind(check, NOT_NUMBERS, "numbers", "round()");
    }

    static void promise24_labelsStayUntilNumbersAreTaken(Check check) {
        RingTasks x = Call.made("ring(4) put(2, 2)");
        check.due("take() of 0 1 2 3", x.take(), RingTasks.STATE);
        check.due("round()", x.round(), 1);
        check.dueText("labels behind round", Show.labels(x), "0020");
        check.due("take() of 0 1 0 1", x.take(), 1);
        check.dueText("labels behind take", Show.labels(x), "0101");
        check.due("faults()", x.faults(), 0);
    }

    // ---- promise 25: colours

    static void promise25_changesNumbersAlone(Check check) {
        changesJust(check, "numbers", "colours()");
    }

    static void promise25_goesByNumbersAlone(Check check) {
        sameBehind(check, NOT_NUMBERS, "colours()");
        leavesTheSameBehind(check, NOT_NUMBERS, "numbers", "colours()");
    }

    static void promise25_areLabelsOnceThereAreThree(Check check) {
        RingTasks x = Call.made("labels(2) ring(5)");
        check.due("colours() of 0 1 2 3 4", x.colours(), 0);
        check.dueText("numbers", Show.numbers(x), "0 1 2 0 1");
        check.due("take() with 2", x.take(), RingTasks.STATE);
        x.labels(3);
        check.due("take() with 3", x.take(), 1);
        check.dueText("labels", Show.labels(x), "01201");
        check.due("faults()", x.faults(), 0);
        x.labels(6);
        check.due("take() with 6", x.take(), 1);
        check.due("faults() with 6", x.faults(), 0);
    }

    // ---- promise 26: take

    static void promise26_changesLabelsAlone(Check check) {
        changesJust(check, "labels", "take()");
    }

    static void promise26_goesByNumbersAndTheCountOfLabels(Check check) {
        String others = TASK_ASKED + TASK_CHANGED + RING_ASKED + RING_CHANGED + NUMBERS_ASKED;
        sameBehind(check, others, "take()");
        RingTasks x = Call.made(others + "take()");
        check.dueText("labels", Show.labels(x), "012");
    }

    static void promise26_refusedLeavesAll(Check check) {
        RingTasks x = Call.made("ring(5) put(3, 1) number(4, 3) number(3, 0)");
        check.due("take() of 0 1 2 0 3", x.take(), RingTasks.STATE);
        check.dueText("all", Show.all(x), "12 02 01 / 00010 / 0 1 2 0 3");
    }

    static void promise26_roundsGoOnFromTheNumbersAndLeaveWhatWasTaken(Check check) {
        RingTasks x = Call.made("labels(4) ring(4) take()");
        check.due("round()", x.round(), 1);
        check.dueText("labels behind round", Show.labels(x), "0123");
        check.dueText("numbers behind round", Show.numbers(x), "0 1 0 1");
        check.due("take()", x.take(), 1);
        check.dueText("labels behind take", Show.labels(x), "0101");
    }

    static void promise26_doesNotAskWhatMayStand(Check check) {
        RingTasks x = Call.made("allow(0, 1, false)");
        check.due("take()", x.take(), 1);
        check.due("faults()", x.faults(), 1);
        check.due("fault(1)", x.fault(1), 0);
        check.due("mend(1)", x.mend(1), 1);
        check.dueText("labels behind mend", Show.labels(x), "021");
    }

    // ---- promise 27: count

    static void promise27_leavesAll(Check check) {
        changesJust(check, NOTHING, "count(0) count(1) count(2) count(3) count(4) count(5) count(-1) count(6)");
    }

    static void promise27_eachCountsItsOwnPart(Check check) {
        sameBehind(check, NOT_THE_TASK, "count(0) count(1)");
        sameBehind(check, NOT_LABELS + RING_CHANGED + "labels(5) take() ", "count(2)");
        sameBehind(check, NOT_NUMBERS, "count(3) count(4)");
        sameBehind(check, NOT_LABELS + TASK_CHANGED, "count(5)");
    }

    static void promise27_tellsOfAllThreeParts(Check check) {
        RingTasks x = Call.made("labels(4) ring(7) allow(0, 0, true) put(3, 2) number(1, 0) number(5, 0)");
        int[] due = {4, 13, 7, 5, 1, 2};
        for (int what = 0; what < due.length; what++) {
            check.due("count(" + what + ")", x.count(what), due[what]);
        }
    }
}
