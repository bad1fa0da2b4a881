/** Promises 2 to 7, each boundary case by itself: labels, who may stand, rings, first rings, walks. */
public final class TaskEdgeTest {
    private static final int[] FAR_OUT = {Integer.MIN_VALUE, -1000, 1000, Integer.MAX_VALUE};
    private static final long MOST = 1000000000000000000L;

    public static void main(String[] args) throws ReflectiveOperationException {
        Cases.run(TaskEdgeTest.class, 2, 7);
    }

    // ---- promise 2: labels

    static void promise02_oneIsTheLeastTaken(Check check) {
        RingTasks x = new RingTasks();
        check.due("labels(1)", x.labels(1), 3);
        check.due("count(0)", x.count(0), 1);
        check.due("may(0, 0)", x.may(0, 0), 0);
        check.due("may(0, 1)", x.may(0, 1), RingTasks.UNKNOWN);
    }

    static void promise02_zeroIsRefused(Check check) {
        RingTasks x = new RingTasks();
        check.due("labels(0)", x.labels(0), RingTasks.OUTSIDE);
        check.due("labels(-1)", x.labels(-1), RingTasks.OUTSIDE);
        check.due("count(0)", x.count(0), 3);
    }

    static void promise02_sixIsTheGreatestTaken(Check check) {
        RingTasks x = new RingTasks();
        check.due("labels(6)", x.labels(6), 3);
        check.due("count(0)", x.count(0), 6);
        check.due("may(5, 4)", x.may(5, 4), 1);
        check.due("may(5, 5)", x.may(5, 5), 0);
        check.due("may(5, 6)", x.may(5, 6), RingTasks.UNKNOWN);
    }

    static void promise02_sevenIsRefused(Check check) {
        RingTasks x = new RingTasks();
        check.due("labels(7)", x.labels(7), RingTasks.OUTSIDE);
        check.due("count(0)", x.count(0), 3);
    }

    static void promise02_farOutIsRefused(Check check) {
        for (int k : FAR_OUT) {
            RingTasks x = new RingTasks();
            check.due("labels(" + k + ")", x.labels(k), RingTasks.OUTSIDE);
            check.due("count(0)", x.count(0), 3);
        }
    }

    static void promise02_refusedChangesNothing(Check check) {
        RingTasks x = new RingTasks();
        x.allow(0, 0, true);
        x.allow(1, 2, false);
        x.put(1, 2);
        x.number(0, 8);
        x.labels(0);
        x.labels(7);
        check.dueText("all", Show.all(x), "012 0 01 / 020 / 8 1 2");
        check.due("labels(4)", x.labels(4), 3);
    }

    static void promise02_tellsHowManyThereWere(Check check) {
        RingTasks x = new RingTasks();
        int before = 3;
        for (int k = 1; k <= 6; k++) {
            check.due("labels(" + k + ")", x.labels(k), before);
            before = k;
        }
        check.due("labels(6) again", x.labels(6), 6);
    }

    static void promise02_asManyAsBeforeBeginsAnew(Check check) {
        RingTasks x = new RingTasks();
        x.allow(1, 1, true);
        x.allow(0, 2, false);
        x.put(2, 1);
        check.due("labels(3)", x.labels(3), 3);
        check.dueText("all", Show.all(x), "12 02 01 / 000 / 0 1 2");
    }

    static void promise02_fewerAndMoreAgainBeginsAnew(Check check) {
        RingTasks x = new RingTasks();
        x.labels(6);
        x.allow(5, 5, true);
        x.allow(0, 5, false);
        x.allow(5, 0, false);
        x.labels(5);
        x.labels(6);
        check.dueText("task", Show.task(x), "12345 02345 01345 01245 01235 01234");
    }

    static void promise02_labelsLeftOutAreUnknown(Check check) {
        RingTasks x = new RingTasks();
        x.labels(2);
        check.due("may(2, 0)", x.may(2, 0), RingTasks.UNKNOWN);
        check.due("allow(0, 2, true)", x.allow(0, 2, true), RingTasks.UNKNOWN);
        check.due("walks(2, 2, 0)", x.walks(2, 2, 0), RingTasks.UNKNOWN);
        check.due("block(2)", x.block(2), RingTasks.UNKNOWN);
        check.due("pace(2)", x.pace(2), RingTasks.UNKNOWN);
        check.due("free(2)", x.free(2), RingTasks.UNKNOWN);
        check.due("put(0, 2)", x.put(0, 2), RingTasks.UNKNOWN);
        check.due("take()", x.take(), RingTasks.STATE);
    }

    static void promise02_allPostsGetLabel0(Check check) {
        RingTasks x = new RingTasks();
        x.ring(60);
        x.put(0, 1);
        x.put(30, 2);
        x.put(59, 2);
        x.labels(6);
        check.due("count(2)", x.count(2), 60);
        check.due("count(5)", x.count(5), 1);
        check.due("at(0)", x.at(0), 0);
        check.due("at(59)", x.at(59), 0);
    }

    static void promise02_numbersStay(Check check) {
        RingTasks x = new RingTasks();
        Show.number(x, 9, 8, 7, 6);
        x.labels(2);
        check.dueText("numbers", Show.numbers(x), "9 8 7 6");
    }

    // ---- promise 3: allow

    static void promise03_leastAndGreatestLabelsAreTaken(Check check) {
        RingTasks x = new RingTasks();
        x.labels(6);
        check.due("allow(0, 5, false)", x.allow(0, 5, false), 1);
        check.due("allow(5, 0, false)", x.allow(5, 0, false), 1);
        check.due("allow(0, 0, true)", x.allow(0, 0, true), 0);
        check.due("allow(5, 5, true)", x.allow(5, 5, true), 0);
        check.dueText("task", Show.task(x), "01234 02345 01345 01245 01235 12345");
    }

    static void promise03_lessThanTheLeastIsUnknown(Check check) {
        RingTasks x = new RingTasks();
        check.due("allow(-1, 0, true)", x.allow(-1, 0, true), RingTasks.UNKNOWN);
        check.due("allow(0, -1, true)", x.allow(0, -1, true), RingTasks.UNKNOWN);
        check.dueText("task", Show.task(x), "12 02 01");
    }

    static void promise03_moreThanTheGreatestIsUnknown(Check check) {
        for (int k = 1; k <= 6; k++) {
            RingTasks x = new RingTasks();
            x.labels(k);
            check.due("allow(k, 0, true)", x.allow(k, 0, true), RingTasks.UNKNOWN);
            check.due("allow(0, k, true)", x.allow(0, k, true), RingTasks.UNKNOWN);
            check.due("allow(k, k, true)", x.allow(k, k, true), RingTasks.UNKNOWN);
            check.due("count(1)", x.count(1), k * (k - 1));
        }
    }

    static void promise03_farOutIsUnknown(Check check) {
        RingTasks x = new RingTasks();
        for (int a : FAR_OUT) {
            check.due("allow(" + a + ", 1, false)", x.allow(a, 1, false), RingTasks.UNKNOWN);
            check.due("allow(1, " + a + ", false)", x.allow(1, a, false), RingTasks.UNKNOWN);
        }
        check.dueText("task", Show.task(x), "12 02 01");
    }

    static void promise03_whatIsRefusedIsNotKeptForLater(Check check) {
        RingTasks x = new RingTasks();
        x.allow(3, 3, true);
        x.allow(0, 3, false);
        x.labels(4);
        check.dueText("task", Show.task(x), "123 023 013 012");
    }

    static void promise03_oneWayLeavesTheOther(Check check) {
        RingTasks x = new RingTasks();
        x.allow(0, 1, false);
        check.due("may(0, 1)", x.may(0, 1), 0);
        check.due("may(1, 0)", x.may(1, 0), 1);
    }

    static void promise03_theSameAgainTellsWhatWas(Check check) {
        RingTasks x = new RingTasks();
        check.due("allow(0, 1, true)", x.allow(0, 1, true), 1);
        check.due("allow(0, 1, true) again", x.allow(0, 1, true), 1);
        check.due("allow(0, 1, false)", x.allow(0, 1, false), 1);
        check.due("allow(0, 1, false) again", x.allow(0, 1, false), 0);
        check.due("allow(0, 1, true) at last", x.allow(0, 1, true), 0);
    }

    static void promise03_aLabelBehindItself(Check check) {
        RingTasks x = new RingTasks();
        x.labels(1);
        check.due("allow(0, 0, true)", x.allow(0, 0, true), 0);
        check.due("may(0, 0)", x.may(0, 0), 1);
        check.due("rings(1)", x.rings(1), 1);
    }

    static void promise03_theRingAtHandStays(Check check) {
        RingTasks x = new RingTasks();
        Show.put(x, "0121");
        x.number(1, 5);
        x.allow(0, 1, false);
        check.dueText("all", Show.all(x), "2 02 01 / 0121 / 0 5 2 3");
        check.due("faults()", x.faults(), 1);
    }

    // ---- promise 4: may

    static void promise04_leastAndGreatestLabelsAreTaken(Check check) {
        RingTasks x = new RingTasks();
        x.labels(6);
        check.due("may(0, 5)", x.may(0, 5), 1);
        check.due("may(5, 0)", x.may(5, 0), 1);
        check.due("may(0, 0)", x.may(0, 0), 0);
        check.due("may(5, 5)", x.may(5, 5), 0);
    }

    static void promise04_nextToThemIsUnknown(Check check) {
        for (int k = 1; k <= 6; k++) {
            RingTasks x = new RingTasks();
            x.labels(k);
            check.due("may(k, 0)", x.may(k, 0), RingTasks.UNKNOWN);
            check.due("may(0, k)", x.may(0, k), RingTasks.UNKNOWN);
            check.due("may(-1, 0)", x.may(-1, 0), RingTasks.UNKNOWN);
            check.due("may(0, -1)", x.may(0, -1), RingTasks.UNKNOWN);
        }
    }

    static void promise04_farOutIsUnknown(Check check) {
        for (int a : FAR_OUT) {
            check.due("may(" + a + ", 1)", new RingTasks().may(a, 1), RingTasks.UNKNOWN);
            check.due("may(1, " + a + ")", new RingTasks().may(1, a), RingTasks.UNKNOWN);
        }
    }

    static void promise04_theSecondStandsBehindTheFirst(Check check) {
        RingTasks x = Show.of(2, "01");
        check.due("may(0, 1)", x.may(0, 1), 1);
        check.due("may(1, 0)", x.may(1, 0), 0);
    }

    // ---- promise 5: rings

    static void promise05_oneIsTheLeastTaken(Check check) {
        check.due("rings(1)", Show.of(6, "00 55 01 10").rings(1), 2);
    }

    static void promise05_zeroIsRefused(Check check) {
        check.due("rings(0)", new RingTasks().rings(0), -2L);
        check.due("rings(-1)", new RingTasks().rings(-1), -2L);
    }

    static void promise05_sixtyIsTheGreatestTaken(Check check) {
        check.due("rings(60)", Show.of(3, "01 12 20").rings(60), 3);
    }

    static void promise05_sixtyOneIsRefused(Check check) {
        check.due("rings(61)", new RingTasks().rings(61), -2L);
    }

    static void promise05_farOutIsRefused(Check check) {
        for (int n : FAR_OUT) {
            check.due("rings(" + n + ")", new RingTasks().rings(n), -2L);
        }
    }

    static void promise05_aRingOf1IsBehindItself(Check check) {
        RingTasks x = new RingTasks();
        check.due("rings(1)", x.rings(1), 0);
        x.allow(2, 2, true);
        check.due("rings(1)", x.rings(1), 1);
    }

    static void promise05_ofARingOf2EachIsBehindTheOther(Check check) {
        check.due("rings(2) of one way", Show.of(2, "01").rings(2), 0);
        check.due("rings(2) of both ways", Show.of(2, "01 10").rings(2), 2);
        check.due("rings(2) with itself", Show.of(2, "00 01").rings(2), 1);
    }

    static void promise05_theFirstStandsBehindTheLast(Check check) {
        check.due("rings(3) of a way", Show.of(3, "01 12").rings(3), 0);
        check.due("rings(3) of a way that closes", Show.of(3, "01 12 20").rings(3), 3);
        check.due("rings(3) of 2 labels", Show.of(2, "01 10").rings(3), 0);
    }

    static void promise05_turnedRingsAreOthers(Check check) {
        check.due("rings(6) of a circle of 6", Show.of(6, "01 12 23 34 45 50").rings(6), 6);
    }

    static void promise05_zeroWhereThereIsNone(Check check) {
        RingTasks x = Show.of(6, "");
        check.due("rings(1)", x.rings(1), 0);
        check.due("rings(60)", x.rings(60), 0);
    }

    static void promise05_toldInFullUpTo10ToThe18(Check check) {
        check.due("2 to the 59", Show.of(2, "00 01 10 11").rings(59), 576460752303423488L);
        check.due("6 to the 23", ofAll(6).rings(23), 789730223053602816L);
        check.due("3 times 2 to the 58", Show.of(6, "00 01 10 11 22 23 32 33 44 45 54 55").rings(58),
                864691128455135232L);
    }

    static void promise05_moreAreToldAs10ToThe18(Check check) {
        check.due("2 to the 60", Show.of(2, "00 01 10 11").rings(60), MOST);
        check.due("6 to the 24", ofAll(6).rings(24), MOST);
    }

    static void promise05_moreInAllThoughOfEachBlockFewer(Check check) {
        check.due("twice 2 to the 59", Show.of(4, "00 01 10 11 22 23 32 33").rings(59), MOST);
    }

    static void promise05_farMoreAreToldAs10ToThe18(Check check) {
        RingTasks x = ofAll(6);
        for (int n = 24; n <= 60; n++) {
            check.due("rings(" + n + ")", x.rings(n), MOST);
        }
    }

    static void promise05_doesNotLookAtTheRingAtHand(Check check) {
        RingTasks x = new RingTasks();
        x.ring(60);
        check.due("rings(3)", x.rings(3), 6);
        check.due("count(2)", x.count(2), 60);
        check.due("count(5)", x.count(5), 1);
    }

    // ---- promise 6: first

    static void promise06_ringOf1IsTheLeastTaken(Check check) {
        check.due("first(1, 0)", Show.of(3, "01 10 22").first(1, 0), 2);
    }

    static void promise06_ringOf0IsRefused(Check check) {
        check.due("first(0, 0)", new RingTasks().first(0, 0), RingTasks.OUTSIDE);
        check.due("first(-1, 0)", new RingTasks().first(-1, 0), RingTasks.OUTSIDE);
    }

    static void promise06_ringOf60IsTheGreatestTaken(Check check) {
        RingTasks x = Show.of(3, "01 12 20");
        check.due("first(60, 0)", x.first(60, 0), 0);
        check.due("first(60, 59)", x.first(60, 59), 2);
    }

    static void promise06_ringOf61IsRefused(Check check) {
        check.due("first(61, 0)", new RingTasks().first(61, 0), RingTasks.OUTSIDE);
        check.due("first(61, 60)", new RingTasks().first(61, 60), RingTasks.OUTSIDE);
    }

    static void promise06_postsNextToTheEndsAreUnknown(Check check) {
        RingTasks x = new RingTasks();
        for (int n = 2; n <= 60; n++) {
            check.due("first(" + n + ", -1)", x.first(n, -1), RingTasks.UNKNOWN);
            check.due("first(" + n + ", 0)", x.first(n, 0), 0);
            check.due("first(" + n + ", n - 1)", x.first(n, n - 1), n % 2 == 0 ? 1 : 2);
            check.due("first(" + n + ", n)", x.first(n, n), RingTasks.UNKNOWN);
        }
    }

    static void promise06_farOutIsRefused(Check check) {
        for (int far : FAR_OUT) {
            check.due("first(" + far + ", 0)", new RingTasks().first(far, 0), RingTasks.OUTSIDE);
            check.due("first(3, " + far + ")", new RingTasks().first(3, far), RingTasks.UNKNOWN);
        }
    }

    static void promise06_outsideComesBeforeUnknown(Check check) {
        RingTasks x = new RingTasks();
        check.due("first(0, -1)", x.first(0, -1), RingTasks.OUTSIDE);
        check.due("first(61, -1)", x.first(61, -1), RingTasks.OUTSIDE);
        check.due("first(61, 61)", x.first(61, 61), RingTasks.OUTSIDE);
    }

    static void promise06_unknownComesBeforeNone(Check check) {
        RingTasks x = new RingTasks();
        check.due("first(1, 1)", x.first(1, 1), RingTasks.UNKNOWN);
        check.due("first(1, -1)", x.first(1, -1), RingTasks.UNKNOWN);
    }

    static void promise06_outsideComesBeforeNone(Check check) {
        RingTasks x = Show.of(3, "");
        check.due("first(61, 0)", x.first(61, 0), RingTasks.OUTSIDE);
        check.due("first(0, 0)", x.first(0, 0), RingTasks.OUTSIDE);
    }

    static void promise06_noneWhereThereIsNoGoodRing(Check check) {
        check.due("first(1, 0)", new RingTasks().first(1, 0), RingTasks.NONE);
        check.due("first(59, 58)", Show.of(2, "01 10").first(59, 58), RingTasks.NONE);
        check.due("first(60, 0)", Show.of(6, "01 12 23").first(60, 0), RingTasks.NONE);
    }

    static void promise06_anyPostOfNoneIsNone(Check check) {
        RingTasks x = Show.of(3, "01 12 20");
        for (int i = 0; i < 7; i++) {
            check.due("first(7, " + i + ")", x.first(7, i), RingTasks.NONE);
        }
    }

    static void promise06_theFirstStandsBehindTheLast(Check check) {
        RingTasks x = new RingTasks();
        check.dueText("first of 3", Show.first(x, 3), "012");
        check.dueText("first of 2", Show.first(x, 2), "01");
        check.dueText("first of 4 that must come back", Show.first(Show.of(4, "01 12 23 30 10"), 4), "0101");
    }

    static void promise06_theLeastLabelThatLeadsNowhereIsPassedBy(Check check) {
        check.dueText("first of 3", Show.first(Show.of(4, "01 02 23 30"), 3), "023");
        check.dueText("first of 3", Show.first(Show.of(6, "01 12 23 45 54 55"), 3), "455");
    }

    static void promise06_isNotHeldToThePostsAtHand(Check check) {
        RingTasks x = new RingTasks();
        check.due("first(60, 59) with 3 at hand", x.first(60, 59), 1);
        x.ring(60);
        check.due("first(3, 3) with 60 at hand", x.first(3, 3), RingTasks.UNKNOWN);
        check.due("count(5)", x.count(5), 1);
    }

    // ---- promise 7: walks

    static void promise07_zeroStepsIsTheLeastTaken(Check check) {
        RingTasks x = new RingTasks();
        check.due("walks(2, 2, 0)", x.walks(2, 2, 0), 1);
        check.due("walks(1, 2, 0)", x.walks(1, 2, 0), 0);
        check.due("walks(0, 0, 0) of nothing", Show.of(1, "").walks(0, 0, 0), 1);
    }

    static void promise07_lessThanZeroStepsIsRefused(Check check) {
        check.due("walks(0, 0, -1)", new RingTasks().walks(0, 0, -1), -2L);
    }

    static void promise07_sixtyStepsIsTheGreatestTaken(Check check) {
        check.due("walks(0, 0, 60)", Show.of(3, "01 12 20").walks(0, 0, 60), 1);
        check.due("walks(0, 1, 60)", Show.of(3, "01 12 20").walks(0, 1, 60), 0);
    }

    static void promise07_sixtyOneStepsIsRefused(Check check) {
        check.due("walks(0, 0, 61)", new RingTasks().walks(0, 0, 61), -2L);
    }

    static void promise07_farOutIsRefused(Check check) {
        for (int far : FAR_OUT) {
            check.due("walks(" + far + ", 0, 1)", new RingTasks().walks(far, 0, 1), -1L);
            check.due("walks(0, " + far + ", 1)", new RingTasks().walks(0, far, 1), -1L);
            check.due("walks(0, 0, " + far + ")", new RingTasks().walks(0, 0, far), -2L);
        }
    }

    static void promise07_labelsNextToTheEndsAreUnknown(Check check) {
        for (int k = 1; k <= 6; k++) {
            RingTasks x = new RingTasks();
            x.labels(k);
            check.due("walks(-1, 0, 0)", x.walks(-1, 0, 0), -1L);
            check.due("walks(0, -1, 0)", x.walks(0, -1, 0), -1L);
            check.due("walks(k, 0, 0)", x.walks(k, 0, 0), -1L);
            check.due("walks(0, k, 0)", x.walks(0, k, 0), -1L);
            check.due("walks(k - 1, k - 1, 0)", x.walks(k - 1, k - 1, 0), 1);
        }
    }

    static void promise07_unknownComesBeforeOutside(Check check) {
        RingTasks x = new RingTasks();
        check.due("walks(3, 0, 61)", x.walks(3, 0, 61), -1L);
        check.due("walks(0, 3, 61)", x.walks(0, 3, 61), -1L);
        check.due("walks(-1, 0, -1)", x.walks(-1, 0, -1), -1L);
        check.due("walks(0, -1, -1)", x.walks(0, -1, -1), -1L);
    }

    static void promise07_oneStepIsWhetherItMayStand(Check check) {
        RingTasks x = Show.of(2, "01 11");
        check.due("walks(0, 1, 1)", x.walks(0, 1, 1), 1);
        check.due("walks(1, 0, 1)", x.walks(1, 0, 1), 0);
        check.due("walks(0, 0, 1)", x.walks(0, 0, 1), 0);
        check.due("walks(1, 1, 1)", x.walks(1, 1, 1), 1);
    }

    static void promise07_toldInFullUpTo10ToThe18(Check check) {
        check.due("3 to the 37", ofAll(3).walks(0, 1, 38), 450283905890997363L);
        check.due("2 to the 59", ofAll(2).walks(1, 0, 60), 576460752303423488L);
        check.due("6 to the 23", ofAll(6).walks(5, 5, 24), 789730223053602816L);
    }

    static void promise07_moreAreToldAs10ToThe18(Check check) {
        check.due("3 to the 38", ofAll(3).walks(0, 1, 39), MOST);
        check.due("6 to the 24", ofAll(6).walks(5, 5, 25), MOST);
    }

    static void promise07_farMoreAreToldAs10ToThe18(Check check) {
        RingTasks x = ofAll(6);
        for (int t = 25; t <= 60; t++) {
            check.due("walks(0, 5, " + t + ")", x.walks(0, 5, t), MOST);
        }
    }

    static void promise07_noneThoughThereAreManyElsewhere(Check check) {
        RingTasks x = Show.of(6, "00 01 02 03 04 10 11 12 13 14 20 21 22 23 24 30 31 32 33 34 40 41 42 43 44 50");
        check.due("walks(0, 5, 60)", x.walks(0, 5, 60), 0);
        check.due("walks(5, 5, 60)", x.walks(5, 5, 60), 0);
        check.due("walks(5, 4, 60)", x.walks(5, 4, 60), MOST);
    }

    private static RingTasks ofAll(int k) {
        RingTasks x = new RingTasks();
        x.labels(k);
        for (int a = 0; a < k; a++) {
            x.allow(a, a, true);
        }
        return x;
    }
}
