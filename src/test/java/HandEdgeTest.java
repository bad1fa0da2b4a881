/** Promises 15 to 21, each boundary case by itself: the ring at hand. */
public final class HandEdgeTest {
    private static final int[] FAR_OUT = {Integer.MIN_VALUE, -1000, 1000, Integer.MAX_VALUE};

    public static void main(String[] args) throws ReflectiveOperationException {
        Cases.run(HandEdgeTest.class, 15, 21);
    }

    // ---- promise 15: ring

    static void promise15_threeIsTheLeastTaken(Check check) {
        RingTasks x = new RingTasks();
        x.ring(4);
        check.due("ring(3)", x.ring(3), 4);
        check.due("count(2)", x.count(2), 3);
        check.due("at(2)", x.at(2), 0);
        check.due("at(3)", x.at(3), RingTasks.UNKNOWN);
    }

    static void promise15_twoIsRefused(Check check) {
        for (int n = -1; n <= 2; n++) {
            RingTasks x = new RingTasks();
            check.due("ring(" + n + ")", x.ring(n), RingTasks.OUTSIDE);
            check.due("count(2)", x.count(2), 3);
        }
    }

    static void promise15_sixtyIsTheGreatestTaken(Check check) {
        RingTasks x = new RingTasks();
        check.due("ring(60)", x.ring(60), 3);
        check.due("count(2)", x.count(2), 60);
        check.due("at(59)", x.at(59), 0);
        check.due("told(59)", x.told(59), 59);
        check.due("at(60)", x.at(60), RingTasks.UNKNOWN);
    }

    static void promise15_sixtyOneIsRefused(Check check) {
        RingTasks x = new RingTasks();
        check.due("ring(61)", x.ring(61), RingTasks.OUTSIDE);
        check.due("count(2)", x.count(2), 3);
    }

    static void promise15_farOutIsRefused(Check check) {
        for (int n : FAR_OUT) {
            RingTasks x = new RingTasks();
            check.due("ring(" + n + ")", x.ring(n), RingTasks.OUTSIDE);
            check.due("count(2)", x.count(2), 3);
        }
    }

    static void promise15_refusedChangesNothing(Check check) {
        RingTasks x = new RingTasks();
        x.allow(0, 0, true);
        Show.put(x, "0121");
        x.number(3, 77);
        x.ring(2);
        x.ring(61);
        check.dueText("all", Show.all(x), "012 02 01 / 0121 / 0 1 2 77");
        check.due("ring(5)", x.ring(5), 4);
    }

    static void promise15_tellsHowManyItHad(Check check) {
        RingTasks x = new RingTasks();
        check.due("ring(59)", x.ring(59), 3);
        check.due("ring(60)", x.ring(60), 59);
        check.due("ring(60) again", x.ring(60), 60);
        check.due("ring(3)", x.ring(3), 60);
    }

    static void promise15_asManyAsBeforeBeginsAnew(Check check) {
        RingTasks x = new RingTasks();
        x.put(2, 2);
        x.number(0, 9);
        check.due("ring(3)", x.ring(3), 3);
        check.dueText("all", Show.all(x), "12 02 01 / 000 / 0 1 2");
    }

    static void promise15_fewerAndMoreAgainBeginsAnew(Check check) {
        RingTasks x = new RingTasks();
        x.ring(60);
        x.put(59, 2);
        x.number(59, 1000000000);
        x.ring(3);
        check.due("at(59)", x.at(59), RingTasks.UNKNOWN);
        check.due("told(59)", x.told(59), RingTasks.UNKNOWN);
        x.ring(60);
        check.due("at(59)", x.at(59), 0);
        check.due("told(59)", x.told(59), 59);
    }

    static void promise15_theTaskStays(Check check) {
        RingTasks x = Show.of(4, "01 12 23 30 33");
        x.ring(5);
        check.dueText("task", Show.task(x), "1 2 3 03");
    }

    // ---- promise 16: put

    static void promise16_firstAndLastPostsAreTaken(Check check) {
        RingTasks x = new RingTasks();
        x.ring(60);
        check.due("put(0, 1)", x.put(0, 1), 0);
        check.due("put(59, 2)", x.put(59, 2), 0);
        check.due("at(0)", x.at(0), 1);
        check.due("at(59)", x.at(59), 2);
    }

    static void promise16_postsNextToTheEndsAreUnknown(Check check) {
        RingTasks x = new RingTasks();
        for (int n = 3; n <= 60; n++) {
            x.ring(n);
            check.due("put(-1, 1)", x.put(-1, 1), RingTasks.UNKNOWN);
            check.due("put(n - 1, 1)", x.put(n - 1, 1), 0);
            check.due("put(n, 1)", x.put(n, 1), RingTasks.UNKNOWN);
        }
    }

    static void promise16_leastAndGreatestLabelsAreTaken(Check check) {
        for (int k = 1; k <= 6; k++) {
            RingTasks x = new RingTasks();
            x.labels(k);
            check.due("put(1, k - 1)", x.put(1, k - 1), 0);
            check.due("put(1, 0)", x.put(1, 0), k - 1);
        }
    }

    static void promise16_labelsNextToTheEndsAreUnknown(Check check) {
        for (int k = 1; k <= 6; k++) {
            RingTasks x = new RingTasks();
            x.labels(k);
            check.due("put(1, -1)", x.put(1, -1), RingTasks.UNKNOWN);
            check.due("put(1, k)", x.put(1, k), RingTasks.UNKNOWN);
            check.dueText("labels", Show.labels(x), "000");
        }
    }

    static void promise16_farOutIsUnknown(Check check) {
        RingTasks x = new RingTasks();
        for (int far : FAR_OUT) {
            check.due("put(" + far + ", 1)", x.put(far, 1), RingTasks.UNKNOWN);
            check.due("put(1, " + far + ")", x.put(1, far), RingTasks.UNKNOWN);
            check.due("put(" + far + ", " + far + ")", x.put(far, far), RingTasks.UNKNOWN);
        }
    }

    static void promise16_refusedChangesNothing(Check check) {
        RingTasks x = new RingTasks();
        Show.put(x, "0121");
        x.put(4, 2);
        x.put(-1, 2);
        x.put(1, 3);
        x.put(1, -1);
        check.dueText("all", Show.all(x), "12 02 01 / 0121 / 0 1 2 3");
    }

    static void promise16_aFaultMayBePut(Check check) {
        RingTasks x = Show.of(2, "");
        check.due("put(0, 1)", x.put(0, 1), 0);
        check.due("put(0, 1) again", x.put(0, 1), 1);
        check.due("faults()", x.faults(), 3);
    }

    // ---- promise 17: at

    static void promise17_postsNextToTheEndsAreUnknown(Check check) {
        RingTasks x = new RingTasks();
        for (int n = 3; n <= 60; n++) {
            x.ring(n);
            x.put(n - 1, 2);
            check.due("at(-1)", x.at(-1), RingTasks.UNKNOWN);
            check.due("at(0)", x.at(0), 0);
            check.due("at(n - 1)", x.at(n - 1), 2);
            check.due("at(n)", x.at(n), RingTasks.UNKNOWN);
        }
    }

    static void promise17_farOutIsUnknown(Check check) {
        for (int post : FAR_OUT) {
            check.due("at(" + post + ")", new RingTasks().at(post), RingTasks.UNKNOWN);
        }
    }

    // ---- promise 18: faults

    static void promise18_noneOfAGoodRing(Check check) {
        RingTasks x = new RingTasks();
        Show.put(x, "012");
        check.due("faults()", x.faults(), 0);
    }

    static void promise18_everyPost(Check check) {
        RingTasks x = new RingTasks();
        x.ring(60);
        check.due("faults()", x.faults(), 60);
    }

    static void promise18_theFirstStandsBehindTheLast(Check check) {
        RingTasks x = new RingTasks();
        Show.put(x, "0120");
        check.due("faults() of like ends", x.faults(), 1);
        RingTasks way = Show.of(3, "01 12 20");
        Show.put(way, "012");
        check.due("faults() of a circle", way.faults(), 0);
        way.allow(2, 0, false);
        check.due("faults() without its last step", way.faults(), 1);
        way.allow(0, 2, true);
        check.due("faults() with the last step the other way", way.faults(), 1);
    }

    static void promise18_oneLabel(Check check) {
        RingTasks x = Show.of(1, "");
        check.due("faults()", x.faults(), 3);
        x.allow(0, 0, true);
        check.due("faults() of a LABEL behind itself", x.faults(), 0);
    }

    // ---- promise 19: fault

    static void promise19_thePostItselfIsTheFirst(Check check) {
        RingTasks x = new RingTasks();
        Show.put(x, "0011212");
        check.due("fault(0)", x.fault(0), 0);
        check.due("fault(1)", x.fault(1), 2);
        check.due("fault(2)", x.fault(2), 2);
    }

    static void promise19_goesRoundBehindTheLast(Check check) {
        RingTasks x = new RingTasks();
        Show.put(x, "0011212");
        check.due("fault(3)", x.fault(3), 0);
        check.due("fault(6)", x.fault(6), 0);
    }

    static void promise19_goesRoundToThePostAhead(Check check) {
        RingTasks x = new RingTasks();
        Show.put(x, "01221");
        check.due("fault(3)", x.fault(3), 2);
        Show.put(x, "01210");
        check.due("fault(0)", x.fault(0), 4);
    }

    static void promise19_theLastPostByTheFirstOne(Check check) {
        RingTasks x = new RingTasks();
        x.ring(60);
        x.fresh();
        x.put(58, 2);
        x.put(59, 0);
        check.due("fault(0)", x.fault(0), 59);
        check.due("fault(59)", x.fault(59), 59);
    }

    static void promise19_noneWhereThereIsNoFault(Check check) {
        RingTasks x = new RingTasks();
        Show.put(x, "012");
        for (int post = 0; post < 3; post++) {
            check.due("fault(" + post + ")", x.fault(post), RingTasks.NONE);
        }
    }

    static void promise19_postsNextToTheEndsAreUnknown(Check check) {
        RingTasks x = new RingTasks();
        for (int n = 3; n <= 60; n++) {
            x.ring(n);
            check.due("fault(-1)", x.fault(-1), RingTasks.UNKNOWN);
            check.due("fault(n - 1)", x.fault(n - 1), n - 1);
            check.due("fault(n)", x.fault(n), RingTasks.UNKNOWN);
        }
    }

    static void promise19_unknownComesBeforeNone(Check check) {
        RingTasks x = new RingTasks();
        Show.put(x, "012");
        check.due("fault(-1)", x.fault(-1), RingTasks.UNKNOWN);
        check.due("fault(3)", x.fault(3), RingTasks.UNKNOWN);
    }

    static void promise19_farOutIsUnknown(Check check) {
        for (int post : FAR_OUT) {
            check.due("fault(" + post + ")", new RingTasks().fault(post), RingTasks.UNKNOWN);
        }
    }

    // ---- promise 20: mend

    static void promise20_zeroStepsWhereThePostAloneDoes(Check check) {
        RingTasks x = new RingTasks();
        Show.put(x, "01112");
        check.due("mend(2)", x.mend(2), 0);
        check.dueText("labels", Show.labels(x), "01012");
    }

    static void promise20_whatIsGoodBecomesTheFirstWay(Check check) {
        RingTasks x = new RingTasks();
        Show.put(x, "0202");
        check.due("mend(1)", x.mend(1), 0);
        check.dueText("labels", Show.labels(x), "0102");
        check.due("mend(1) again", x.mend(1), 0);
        check.dueText("labels again", Show.labels(x), "0102");
    }

    static void promise20_theOneAheadOfTheFirstIsNoFaultEither(Check check) {
        RingTasks x = Show.of(3, "10 02 20");
        Show.put(x, "00000");
        check.due("mend(2)", x.mend(2), 0);
        check.dueText("labels, as 1 may not stand behind 0", Show.labels(x), "00200");
    }

    static void promise20_theLastOfTheseIsNoFaultEither(Check check) {
        RingTasks x = Show.of(3, "01 02 20");
        Show.put(x, "00000");
        check.due("mend(2)", x.mend(2), 0);
        check.dueText("labels, as 0 may not stand behind 1", Show.labels(x), "00200");
    }

    static void promise20_faultsFartherOffStay(Check check) {
        RingTasks x = new RingTasks();
        x.ring(6);
        check.due("mend(2)", x.mend(2), 0);
        check.dueText("labels", Show.labels(x), "001000");
        check.due("faults()", x.faults(), 4);
    }

    static void promise20_theLeastRThatDoes(Check check) {
        RingTasks x = Show.of(6, "01 12 23 34 45 50");
        Show.put(x, "000000000000");
        check.due("mend(5)", x.mend(5), 2);
        check.dueText("labels", Show.labels(x), "000123450000");
    }

    static void promise20_theFirstPostGoesRoundToTheLast(Check check) {
        RingTasks x = Show.of(3, "01 12 20");
        Show.put(x, "0010002");
        check.due("mend(0)", x.mend(0), 1);
        check.dueText("labels", Show.labels(x), "2010001");
    }

    static void promise20_theLastPostGoesRoundToTheFirst(Check check) {
        RingTasks x = Show.of(3, "01 12 20");
        Show.put(x, "0200100");
        check.due("mend(6)", x.mend(6), 1);
        check.dueText("labels, 1 behind 0 and 2 ahead of 0", Show.labels(x), "1200120");
    }

    static void promise20_ofThreeTheWholeRing(Check check) {
        RingTasks x = Show.of(2, "11");
        check.due("mend(0)", x.mend(0), 1);
        check.dueText("labels", Show.labels(x), "111");
    }

    static void promise20_ofFourOnePostStays(Check check) {
        RingTasks x = Show.of(4, "01 12 23 30");
        x.ring(4);
        check.due("mend(1)", x.mend(1), 1);
        check.dueText("labels", Show.labels(x), "1230");
    }

    static void promise20_ofFourNoneDoesAsOnePostStays(Check check) {
        RingTasks x = Show.of(2, "11");
        x.ring(4);
        check.due("mend(1)", x.mend(1), RingTasks.NONE);
        check.dueText("labels", Show.labels(x), "0000");
        check.due("fresh()", x.fresh(), 1);
    }

    static void promise20_of59TheWholeRing(Check check) {
        RingTasks x = Show.of(2, "11");
        x.ring(59);
        check.due("mend(58)", x.mend(58), 29);
        check.due("faults()", x.faults(), 0);
    }

    static void promise20_of60OnePostStays(Check check) {
        RingTasks x = Show.of(2, "11");
        x.ring(60);
        check.due("mend(59)", x.mend(59), RingTasks.NONE);
        x.put(29, 1);
        check.due("mend(59) with 1 on the far side", x.mend(59), 29);
        check.due("faults()", x.faults(), 0);
    }

    static void promise20_theWholeRingIsToldFromTheFarthestPostAhead(Check check) {
        RingTasks x = Show.of(4, "12 23 31");
        String[] due = {"231231231", "", "", "", "123123123", "", "", "", "312312312"};
        for (int post = 0; post < 9; post += 4) {
            x.ring(9);
            check.due("mend(" + post + ")", x.mend(post), 4);
            check.dueText("labels", Show.labels(x), due[post]);
        }
    }

    static void promise20_theWholeRingMeetsItself(Check check) {
        RingTasks x = Show.of(4, "12 21 13 32");
        x.ring(5);
        check.due("mend(2)", x.mend(2), 2);
        check.dueText("labels", Show.labels(x), "12132");
    }

    static void promise20_noneChangesNothing(Check check) {
        RingTasks x = Show.of(3, "01 12 20");
        Show.put(x, "2121");
        x.number(1, 7);
        for (int post = 0; post < 4; post++) {
            check.due("mend(" + post + ")", x.mend(post), RingTasks.NONE);
        }
        check.dueText("all", Show.all(x), "1 2 0 / 2121 / 0 7 2 3");
    }

    static void promise20_unknownComesBeforeNone(Check check) {
        RingTasks x = Show.of(3, "");
        check.due("mend(-1)", x.mend(-1), RingTasks.UNKNOWN);
        check.due("mend(0)", x.mend(0), RingTasks.NONE);
        check.due("mend(2)", x.mend(2), RingTasks.NONE);
        check.due("mend(3)", x.mend(3), RingTasks.UNKNOWN);
    }

    static void promise20_unknownChangesNothing(Check check) {
        RingTasks x = new RingTasks();
        x.ring(4);
        x.mend(-1);
        x.mend(4);
        for (int post : FAR_OUT) {
            check.due("mend(" + post + ")", x.mend(post), RingTasks.UNKNOWN);
        }
        check.dueText("labels", Show.labels(x), "0000");
    }

    static void promise20_numbersStay(Check check) {
        RingTasks x = new RingTasks();
        Show.number(x, 5, 5, 7, 0);
        check.due("mend(3)", x.mend(3), 0);
        check.dueText("all", Show.all(x), "12 02 01 / 0001 / 5 5 7 0");
    }

    // ---- promise 21: fresh

    static void promise21_ofThree(Check check) {
        RingTasks x = new RingTasks();
        check.due("fresh()", x.fresh(), 1);
        check.dueText("labels", Show.labels(x), "012");
    }

    static void promise21_ofSixty(Check check) {
        RingTasks x = new RingTasks();
        x.ring(60);
        x.put(59, 2);
        check.due("fresh()", x.fresh(), 1);
        check.dueText("labels", Show.labels(x), "01".repeat(30));
    }

    static void promise21_theFirstStandsBehindTheLast(Check check) {
        RingTasks x = new RingTasks();
        x.ring(59);
        check.due("fresh()", x.fresh(), 1);
        check.dueText("labels", Show.labels(x), "01".repeat(29) + "2");
    }

    static void promise21_againIsTheSame(Check check) {
        RingTasks x = new RingTasks();
        x.ring(5);
        x.fresh();
        check.due("fresh()", x.fresh(), 1);
        check.dueText("labels", Show.labels(x), "01012");
    }

    static void promise21_noneChangesNothing(Check check) {
        RingTasks x = Show.of(2, "01 10");
        Show.put(x, "01101");
        x.number(2, 8);
        check.due("fresh()", x.fresh(), RingTasks.NONE);
        check.dueText("all", Show.all(x), "1 0 / 01101 / 0 1 8 3 4");
    }

    static void promise21_noneOfOneLabel(Check check) {
        RingTasks x = Show.of(1, "");
        check.due("fresh()", x.fresh(), RingTasks.NONE);
        x.allow(0, 0, true);
        check.due("fresh() of a LABEL behind itself", x.fresh(), 1);
    }

    static void promise21_numbersStay(Check check) {
        RingTasks x = new RingTasks();
        Show.number(x, 4, 4, 4);
        x.fresh();
        check.dueText("all", Show.all(x), "12 02 01 / 012 / 4 4 4");
    }
}
