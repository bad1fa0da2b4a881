/** Promises 8 to 14, each boundary case by itself: blocks, paces, the kinds, sure, free, mirrors. */
public final class WalkEdgeTest {
    private static final int[] FAR_OUT = {Integer.MIN_VALUE, -1000, 1000, Integer.MAX_VALUE};
    private static final String CIRCLE_OF_6 = "01 12 23 34 45 50";
    private static final String CIRCLES_OF_5_AND_6 = "01 12 23 34 40 45 50";
    private static final String ALL_BUT_ITSELF = "what labels(k) begins with";

    public static void main(String[] args) throws ReflectiveOperationException {
        Cases.run(WalkEdgeTest.class, 8, 14);
    }

    // ---- promise 8: blocks

    static void promise08_oneLabelIsOneBlock(Check check) {
        check.due("blocks()", task(1, "").blocks(), 1);
        check.due("blocks() with itself", task(1, "00").blocks(), 1);
    }

    static void promise08_eachLabelIsABlockWhereNoneMayStand(Check check) {
        for (int k = 1; k <= 6; k++) {
            check.due("blocks() of " + k, task(k, "").blocks(), k);
        }
    }

    static void promise08_allAreOneBlockWhereUnlikeOnesMayStand(Check check) {
        for (int k = 2; k <= 6; k++) {
            check.due("blocks() of " + k, task(k, ALL_BUT_ITSELF).blocks(), 1);
        }
    }

    static void promise08_oneWayAloneJoinsNone(Check check) {
        check.due("blocks() of a way", task(6, "01 12 23 34 45").blocks(), 6);
        check.due("blocks() of a way back", task(6, "54 43 32 21 10").blocks(), 6);
        check.due("blocks() of all ways on", task(4, "01 02 03 12 13 23").blocks(), 4);
    }

    static void promise08_theLongestWayRoundJoinsAll(Check check) {
        check.due("blocks()", task(6, CIRCLE_OF_6).blocks(), 1);
        check.due("blocks() without its last step", task(6, "01 12 23 34 45").blocks(), 6);
    }

    // ---- promise 9: block

    static void promise09_aLabelWithoutAWalkIsOfItsOwnBlock(Check check) {
        RingTasks x = task(6, "");
        for (int a = 0; a < 6; a++) {
            check.due("block(" + a + ")", x.block(a), a);
        }
    }

    static void promise09_theLeastOfItsBlock(Check check) {
        RingTasks x = task(6, "15 51 24 42");
        int[] least = {0, 1, 2, 3, 2, 1};
        for (int a = 0; a < 6; a++) {
            check.due("block(" + a + ")", x.block(a), least[a]);
        }
    }

    static void promise09_aWayThereWithoutAWayBack(Check check) {
        check.due("block(1) from 0", task(2, "01").block(1), 1);
        check.due("block(1) to 0", task(2, "10").block(1), 1);
    }

    static void promise09_theLongestWayRound(Check check) {
        RingTasks x = task(6, CIRCLE_OF_6);
        for (int a = 0; a < 6; a++) {
            check.due("block(" + a + ")", x.block(a), 0);
        }
    }

    static void promise09_labelsNextToTheEndsAreUnknown(Check check) {
        for (int k = 1; k <= 6; k++) {
            RingTasks x = task(k, ALL_BUT_ITSELF);
            check.due("block(-1)", x.block(-1), RingTasks.UNKNOWN);
            check.due("block(k - 1)", x.block(k - 1), 0);
            check.due("block(k)", x.block(k), RingTasks.UNKNOWN);
        }
    }

    static void promise09_farOutIsUnknown(Check check) {
        for (int a : FAR_OUT) {
            check.due("block(" + a + ")", new RingTasks().block(a), RingTasks.UNKNOWN);
        }
    }

    // ---- promise 10: pace

    static void promise10_zeroWhereNoWalkComesBack(Check check) {
        check.due("pace(0) of nothing", task(1, "").pace(0), 0);
        check.due("pace(0) of a way", task(6, "01 12 23 34 45").pace(0), 0);
        check.due("pace(5) of a way", task(6, "01 12 23 34 45").pace(5), 0);
    }

    static void promise10_zeroStepsAreNoWalkBack(Check check) {
        check.due("walks(0, 0, 0)", task(2, "01").walks(0, 0, 0), 1);
        check.due("pace(0)", task(2, "01").pace(0), 0);
    }

    static void promise10_zeroAheadOfAndBehindACircle(Check check) {
        RingTasks x = task(4, "01 12 21 23");
        check.due("pace(0)", x.pace(0), 0);
        check.due("pace(1)", x.pace(1), 2);
        check.due("pace(3)", x.pace(3), 0);
    }

    static void promise10_oneStepIsTheShortestWalkBack(Check check) {
        check.due("pace(0)", task(1, "00").pace(0), 1);
        check.due("pace(1)", task(2, "00 01 10").pace(1), 1);
    }

    static void promise10_eachPaceFrom1To6(Check check) {
        check.due("pace(5) of 1", task(6, "55").pace(5), 1);
        check.due("pace(5) of 2", task(6, "45 54").pace(5), 2);
        check.due("pace(5) of 3", task(6, "34 45 53").pace(5), 3);
        check.due("pace(5) of 4", task(6, "23 34 45 52").pace(5), 4);
        check.due("pace(5) of 5", task(6, "12 23 34 45 51").pace(5), 5);
        check.due("pace(5) of 6", task(6, CIRCLE_OF_6).pace(5), 6);
    }

    static void promise10_dividesWalksThatAreNotTheShortest(Check check) {
        check.due("circles of 4 and 6", task(6, CIRCLE_OF_6 + " 30").pace(0), 2);
        check.due("circles of 4 and 6, of a LABEL of the longer", task(6, CIRCLE_OF_6 + " 30").pace(5), 2);
        check.due("circles of 3 and 6", task(6, CIRCLE_OF_6 + " 20").pace(0), 3);
        check.due("circles of 5 and 6", task(6, CIRCLES_OF_5_AND_6).pace(5), 1);
        check.due("circles of 2 and 3 that meet", task(4, "01 10 12 23 31").pace(0), 1);
    }

    static void promise10_isTheSameThroughoutABlock(Check check) {
        RingTasks x = task(6, "01 10 12 21 23 32 34 43 45 54");
        for (int a = 0; a < 6; a++) {
            check.due("pace(" + a + ")", x.pace(a), 2);
        }
    }

    static void promise10_labelsNextToTheEndsAreUnknown(Check check) {
        for (int k = 1; k <= 6; k++) {
            RingTasks x = task(k, "");
            check.due("pace(-1)", x.pace(-1), RingTasks.UNKNOWN);
            check.due("pace(0)", x.pace(0), 0);
            check.due("pace(k - 1)", x.pace(k - 1), 0);
            check.due("pace(k)", x.pace(k), RingTasks.UNKNOWN);
        }
    }

    static void promise10_farOutIsUnknown(Check check) {
        for (int a : FAR_OUT) {
            check.due("pace(" + a + ")", new RingTasks().pace(a), RingTasks.UNKNOWN);
        }
    }

    // ---- promise 11: kind

    static void promise11_neverWhereNoRingIsGood(Check check) {
        check.due("kind() of nothing", task(6, "").kind(), 0);
        check.due("kind() of one LABEL", task(1, ALL_BUT_ITSELF).kind(), 0);
        check.due("kind() of all ways on", task(6, "01 02 03 04 05 12 13 14 15 23 24 25 34 35 45").kind(), 0);
    }

    static void promise11_notNeverWhereJustTheLongestCircleIsGood(Check check) {
        check.due("kind()", task(6, CIRCLE_OF_6).kind(), 3);
    }

    static void promise11_blindByOneLabelBehindItself(Check check) {
        for (int a = 0; a < 6; a++) {
            check.due("kind() by " + a, task(6, a + "" + a).kind(), 1);
        }
        check.due("kind() of one LABEL", task(1, "00").kind(), 1);
    }

    static void promise11_blindComesBeforeNearAndFar(Check check) {
        check.due("kind() beside NEAR", task(4, "01 10 12 20 33").kind(), 1);
        check.due("kind() beside FAR", task(3, "01 10 22").kind(), 1);
        check.due("kind() within NEAR", task(2, "00 01 10").kind(), 1);
    }

    static void promise11_nearByOneLabelOfPace1(Check check) {
        check.due("kind()", task(6, "34 43 45 53").kind(), 2);
        check.due("kind() beside FAR", task(5, "01 10 23 32 34 42").kind(), 2);
        check.due("kind() of the longest gaps", task(6, CIRCLES_OF_5_AND_6).kind(), 2);
    }

    static void promise11_farWhereNoLabelHasPace1(Check check) {
        check.due("kind() of a pair", task(2, "01 10").kind(), 3);
        check.due("kind() of circles of 2 and 3 apart", task(5, "01 10 23 34 42").kind(), 3);
        check.due("kind() of circles of 2 and 3 joined one way", task(5, "01 10 12 23 34 42").kind(), 3);
        check.due("kind() of circles of 4 and 6", task(6, CIRCLE_OF_6 + " 30").kind(), 3);
    }

    static void promise11_twoLabelsAreFarAndThreeAreNear(Check check) {
        check.due("kind() of 2", task(2, ALL_BUT_ITSELF).kind(), 3);
        for (int k = 3; k <= 6; k++) {
            check.due("kind() of " + k, task(k, ALL_BUT_ITSELF).kind(), 2);
        }
    }

    // ---- promise 12: sure

    static void promise12_noneWhereNoRingIsGood(Check check) {
        check.due("sure() of nothing", task(6, "").sure(), RingTasks.NONE);
        check.due("sure() of one LABEL", task(1, ALL_BUT_ITSELF).sure(), RingTasks.NONE);
        check.due("sure() of a way", task(6, "01 12 23 34 45").sure(), RingTasks.NONE);
    }

    static void promise12_noneWhereItIsFar(Check check) {
        check.due("sure() of a pair", task(2, "01 10").sure(), RingTasks.NONE);
        check.due("sure() of a circle of 6", task(6, CIRCLE_OF_6).sure(), RingTasks.NONE);
        check.due("sure() of 2 and 3 apart", task(5, "01 10 23 34 42").sure(), RingTasks.NONE);
    }

    static void promise12_fromOneOnWhereALabelMayStandBehindItself(Check check) {
        check.due("sure() of one LABEL", task(1, "00").sure(), 1);
        check.due("sure() of the last LABEL", task(6, "55").sure(), 1);
    }

    static void promise12_fromTwoOnWithoutThat(Check check) {
        check.due("sure() of a new object", new RingTasks().sure(), 2);
        check.due("sure() of 6", task(6, ALL_BUT_ITSELF).sure(), 2);
    }

    static void promise12_theNumberBeforeItHasNoGoodRing(Check check) {
        RingTasks x = task(6, CIRCLES_OF_5_AND_6);
        check.due("sure()", x.sure(), 20);
        check.due("rings(19)", x.rings(19), 0);
        for (int n = 20; n <= 60; n++) {
            check.due("whether there are rings of " + n, x.rings(n) > 0 ? 1 : 0, 1);
        }
    }

    static void promise12_otherBlocksFillAGapOrLeaveIt(Check check) {
        RingTasks x = task(6, "01 12 20 23 30");
        check.due("sure() of circles of 3 and 4", x.sure(), 6);
        check.due("rings(2)", x.rings(2), 0);
        x.allow(4, 5, true);
        x.allow(5, 4, true);
        check.due("sure() with a pair beside them", x.sure(), 6);
        check.due("rings(2) with a pair", x.rings(2), 2);
        check.due("rings(5) with a pair", x.rings(5), 0);
        x.allow(5, 5, true);
        check.due("sure() with a LABEL behind itself", x.sure(), 1);
    }

    static void promise12_isLessThanAnyLabelIsFree(Check check) {
        RingTasks x = task(5, "01 10 12 23 34 42 40");
        check.due("sure()", x.sure(), 2);
        for (int a = 0; a < 5; a++) {
            check.due("whether " + a + " is free later", x.free(a) > 2 ? 1 : 0, 1);
        }
    }

    // ---- promise 13: free

    static void promise13_fromZeroStepsOnBehindItself(Check check) {
        check.due("free(0)", task(1, "00").free(0), 0);
        check.due("free(5)", task(6, "55").free(5), 0);
    }

    static void promise13_zeroStepsAloneAreNotEnough(Check check) {
        check.due("free(1) beside a LABEL behind itself", task(2, "00 01 10").free(1), 2);
        check.due("walks(1, 1, 0)", task(2, "00 01 10").walks(1, 1, 0), 1);
        check.due("walks(1, 1, 1)", task(2, "00 01 10").walks(1, 1, 1), 0);
    }

    static void promise13_noneWithoutAWalkBack(Check check) {
        check.due("free(0) of nothing", task(1, "").free(0), RingTasks.NONE);
        check.due("free(0) ahead of a circle", task(2, "01 11").free(0), RingTasks.NONE);
        check.due("free(0) behind a circle", task(2, "10 11").free(0), RingTasks.NONE);
    }

    static void promise13_noneOfPaceTwoAndMore(Check check) {
        check.due("free(0) of a pair", task(2, "01 10").free(0), RingTasks.NONE);
        check.due("free(5) of a circle of 6", task(6, CIRCLE_OF_6).free(5), RingTasks.NONE);
        check.due("free(0) beside a free one", task(3, "01 10 22").free(0), RingTasks.NONE);
    }

    static void promise13_theLastGapEndsRightBefore(Check check) {
        RingTasks x = task(6, CIRCLES_OF_5_AND_6);
        check.due("free(5)", x.free(5), 26);
        check.due("walks(5, 5, 25)", x.walks(5, 5, 25), 0);
        check.due("walks(5, 5, 26) more than 0", x.walks(5, 5, 26) > 0 ? 1 : 0, 1);
        check.due("free(0)", x.free(0), 20);
        check.due("walks(0, 0, 19)", x.walks(0, 0, 19), 0);
    }

    static void promise13_labelsNextToTheEndsAreUnknown(Check check) {
        for (int k = 1; k <= 6; k++) {
            RingTasks x = task(k, "");
            check.due("free(-1)", x.free(-1), RingTasks.UNKNOWN);
            check.due("free(0)", x.free(0), RingTasks.NONE);
            check.due("free(k - 1)", x.free(k - 1), RingTasks.NONE);
            check.due("free(k)", x.free(k), RingTasks.UNKNOWN);
        }
    }

    static void promise13_farOutIsUnknown(Check check) {
        for (int a : FAR_OUT) {
            check.due("free(" + a + ")", new RingTasks().free(a), RingTasks.UNKNOWN);
        }
    }

    // ---- promise 14: mirrors

    static void promise14_oneLabelMirrors(Check check) {
        check.due("mirrors()", task(1, "").mirrors(), 1);
        check.due("mirrors() with itself", task(1, "00").mirrors(), 1);
    }

    static void promise14_withoutAGoodRingItMirrors(Check check) {
        check.due("mirrors() of nothing", task(6, "").mirrors(), 1);
        check.due("mirrors() of a way", task(6, "01 12 23 34 45").mirrors(), 1);
    }

    static void promise14_oneWayBetweenBlocksIsNotAsked(Check check) {
        check.due("mirrors() on", task(4, "01 10 12 23 32").mirrors(), 1);
        check.due("mirrors() back", task(4, "01 10 21 23 32").mirrors(), 1);
        check.due("mirrors() of LABELS behind themselves", task(2, "00 01 11").mirrors(), 1);
    }

    static void promise14_oneWayWithinABlockDoesNotMirror(Check check) {
        check.due("mirrors() of a circle of 3", task(3, "01 12 20").mirrors(), 0);
        check.due("mirrors() of the last two LABELS", task(6, "34 43 35 53 45").mirrors(), 0);
        check.due("mirrors() of the last two LABELS back", task(6, "34 43 35 53 54").mirrors(), 0);
        check.due("mirrors() of the first and the last", task(6, "01 10 12 21 23 32 34 43 45 54 05").mirrors(), 0);
    }

    static void promise14_bothWaysWithinABlockMirror(Check check) {
        check.due("mirrors() of a chain", task(6, "01 10 12 21 23 32 34 43 45 54").mirrors(), 1);
        check.due("mirrors() of 6", task(6, ALL_BUT_ITSELF).mirrors(), 1);
    }

    private static RingTasks task(int k, String pairs) {
        if (!pairs.equals(ALL_BUT_ITSELF)) {
            return Show.of(k, pairs);
        }
        RingTasks x = new RingTasks();
        x.labels(k);
        return x;
    }
}
