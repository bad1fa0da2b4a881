/** Promises 22 to 27, each boundary case by itself: numbers, rounds, the colours, take, count. */
public final class NumbersEdgeTest {
    private static final int MOST = 1000000000;
    private static final int HIGHEST_BIT = 536870912;
    private static final int[] FAR_OUT = {Integer.MIN_VALUE, -1000, 1000, Integer.MAX_VALUE};

    public static void main(String[] args) throws ReflectiveOperationException {
        Cases.run(NumbersEdgeTest.class, 22, 27);
    }

    // ---- promise 22: number

    static void promise22_zeroIsTheLeastTaken(Check check) {
        RingTasks x = new RingTasks();
        check.due("number(2, 0)", x.number(2, 0), 2);
        check.due("told(2)", x.told(2), 0);
    }

    static void promise22_lessThanZeroIsRefused(Check check) {
        RingTasks x = new RingTasks();
        check.due("number(2, -1)", x.number(2, -1), RingTasks.OUTSIDE);
        check.due("number(2, least int)", x.number(2, Integer.MIN_VALUE), RingTasks.OUTSIDE);
        check.due("told(2)", x.told(2), 2);
    }

    static void promise22_10ToThe9IsTheGreatestTaken(Check check) {
        RingTasks x = new RingTasks();
        check.due("number(2, 1000000000)", x.number(2, MOST), 2);
        check.due("told(2)", x.told(2), MOST);
        check.due("number(2, 5)", x.number(2, 5), MOST);
    }

    static void promise22_moreThan10ToThe9IsRefused(Check check) {
        RingTasks x = new RingTasks();
        check.due("number(2, 1000000001)", x.number(2, MOST + 1), RingTasks.OUTSIDE);
        check.due("number(2, greatest int)", x.number(2, Integer.MAX_VALUE), RingTasks.OUTSIDE);
        check.due("told(2)", x.told(2), 2);
    }

    static void promise22_postsNextToTheEndsAreUnknown(Check check) {
        RingTasks x = new RingTasks();
        for (int n = 3; n <= 60; n++) {
            x.ring(n);
            check.due("number(-1, 7)", x.number(-1, 7), RingTasks.UNKNOWN);
            check.due("number(0, 7)", x.number(0, 7), 0);
            check.due("number(n - 1, 7)", x.number(n - 1, 7), n - 1);
            check.due("number(n, 7)", x.number(n, 7), RingTasks.UNKNOWN);
        }
    }

    static void promise22_farOutIsUnknown(Check check) {
        for (int post : FAR_OUT) {
            check.due("number(" + post + ", 1)", new RingTasks().number(post, 1), RingTasks.UNKNOWN);
        }
    }

    static void promise22_unknownComesBeforeOutside(Check check) {
        RingTasks x = new RingTasks();
        check.due("number(3, -1)", x.number(3, -1), RingTasks.UNKNOWN);
        check.due("number(-1, 1000000001)", x.number(-1, MOST + 1), RingTasks.UNKNOWN);
    }

    static void promise22_refusedChangesNothing(Check check) {
        RingTasks x = new RingTasks();
        Show.number(x, 9, 8, 7, 6);
        x.number(4, 5);
        x.number(-1, 5);
        x.number(0, -1);
        x.number(3, MOST + 1);
        check.dueText("all", Show.all(x), "12 02 01 / 0000 / 9 8 7 6");
        check.due("number(0, 1)", x.number(0, 1), 9);
    }

    static void promise22_likeNeighboursAreTaken(Check check) {
        RingTasks x = new RingTasks();
        check.due("number(1, 0)", x.number(1, 0), 1);
        check.due("number(1, 0) again", x.number(1, 0), 0);
        check.due("count(4)", x.count(4), 1);
    }

    static void promise22_labelsStay(Check check) {
        RingTasks x = new RingTasks();
        x.number(0, 2);
        check.dueText("labels", Show.labels(x), "000");
    }

    // ---- promise 23: told

    static void promise23_postsNextToTheEndsAreUnknown(Check check) {
        RingTasks x = new RingTasks();
        for (int n = 3; n <= 60; n++) {
            x.ring(n);
            check.due("told(-1)", x.told(-1), RingTasks.UNKNOWN);
            check.due("told(0)", x.told(0), 0);
            check.due("told(n - 1)", x.told(n - 1), n - 1);
            check.due("told(n)", x.told(n), RingTasks.UNKNOWN);
        }
    }

    static void promise23_farOutIsUnknown(Check check) {
        for (int post : FAR_OUT) {
            check.due("told(" + post + ")", new RingTasks().told(post), RingTasks.UNKNOWN);
        }
    }

    // ---- promise 24: round

    static void promise24_likeFirstOnesAreRefused(Check check) {
        refusesRound(check, 1, 1, 2, 3);
    }

    static void promise24_likeLastOnesAreRefused(Check check) {
        refusesRound(check, 1, 2, 3, 3);
    }

    static void promise24_theLastLikeTheFirstIsRefused(Check check) {
        refusesRound(check, 1, 2, 3, 1);
        refusesRound(check, MOST, 0, MOST);
    }

    static void promise24_allAlikeAreRefused(Check check) {
        refusesRound(check, 0, 0, 0);
    }

    static void promise24_likeOnesThatAreNoNeighboursAreTaken(Check check) {
        RingTasks x = new RingTasks();
        Show.number(x, 5, 6, 5, 6);
        check.due("round()", x.round(), 1);
        check.dueText("numbers", Show.numbers(x), "1 0 1 0");
    }

    static void promise24_theLowestPlaceCounts(Check check) {
        RingTasks x = new RingTasks();
        Show.number(x, 13, 5, 2);
        check.due("round()", x.round(), 7);
        check.dueText("numbers", Show.numbers(x), "7 1 0");
    }

    static void promise24_theLastLooksAtWhatTheFirstWas(Check check) {
        RingTasks x = new RingTasks();
        Show.number(x, 4, 6, 12);
        check.due("round()", x.round(), 7);
        check.dueText("numbers", Show.numbers(x), "2 3 7");
    }

    static void promise24_theLowestPlaceOfAllIs0(Check check) {
        RingTasks x = new RingTasks();
        Show.number(x, 0, 1, 0, 1);
        check.due("round()", x.round(), 1);
        check.dueText("numbers", Show.numbers(x), "0 1 0 1");
    }

    static void promise24_theHighestPlaceOfAllIs29(Check check) {
        RingTasks x = new RingTasks();
        Show.number(x, HIGHEST_BIT, 0, 1);
        check.due("round() with the bit", x.round(), 59);
        check.dueText("numbers", Show.numbers(x), "59 0 1");
        Show.number(x, 0, HIGHEST_BIT, 1);
        check.due("round() without the bit", x.round(), 58);
        check.dueText("numbers", Show.numbers(x), "58 0 1");
    }

    static void promise24_ofTheGreatestNumber(Check check) {
        RingTasks x = new RingTasks();
        Show.number(x, MOST, 0, 1);
        check.due("round()", x.round(), 19);
        check.dueText("numbers", Show.numbers(x), "19 0 1");
        Show.number(x, MOST, MOST - 1, MOST, MOST - 1);
        check.due("round() of it and the one below", x.round(), 1);
        check.dueText("numbers", Show.numbers(x), "0 1 0 1");
    }

    static void promise24_tellsTheGreatestNumberThen(Check check) {
        RingTasks x = new RingTasks();
        Show.number(x, 1, 2, 8);
        check.due("round() where the last is the greatest", x.round(), 3);
        check.dueText("numbers", Show.numbers(x), "1 3 0");
    }

    static void promise24_of60AndOf59(Check check) {
        RingTasks x = new RingTasks();
        x.ring(60);
        check.due("round() of 60", x.round(), 1);
        check.dueText("numbers", Show.numbers(x), "0 1 ".repeat(30).trim());
        RingTasks odd = new RingTasks();
        odd.ring(59);
        check.due("round() of 59", odd.round(), 3);
        check.dueText("numbers", Show.numbers(odd), "0 1 ".repeat(29) + "3");
    }

    static void promise24_noTwoNeighboursBecomeAlike(Check check) {
        RingTasks x = new RingTasks();
        Show.number(x, 8, 0, 1, MOST, 999, HIGHEST_BIT, 12, 4);
        for (int round = 1; round <= 20; round++) {
            check.due("whether round " + round + " is taken", x.round() > 0 ? 1 : 0, 1);
            check.due("count(4)", x.count(4), 0);
        }
    }

    static void promise24_labelsStay(Check check) {
        RingTasks x = new RingTasks();
        Show.put(x, "0121");
        x.round();
        check.dueText("labels", Show.labels(x), "0121");
    }

    // ---- promise 25: colours

    static void promise25_likeFirstOnesAreRefused(Check check) {
        refusesColours(check, 9, 9, 2, 3);
    }

    static void promise25_likeLastOnesAreRefused(Check check) {
        refusesColours(check, 1, 2, 9, 9);
    }

    static void promise25_theLastLikeTheFirstIsRefused(Check check) {
        refusesColours(check, 9, 2, 3, 9);
    }

    static void promise25_likeOnesOfFewColoursAreRefused(Check check) {
        refusesColours(check, 0, 0, 1);
        refusesColours(check, 5, 3, 5);
    }

    static void promise25_fiveNeedsNoRound(Check check) {
        RingTasks x = new RingTasks();
        Show.number(x, 5, 0, 5, 1);
        check.due("colours()", x.colours(), 0);
        check.dueText("numbers", Show.numbers(x), "2 0 2 1");
    }

    static void promise25_sixNeedsARound(Check check) {
        RingTasks x = new RingTasks();
        Show.number(x, 6, 0, 1);
        check.due("colours()", x.colours(), 1);
        check.dueText("numbers", Show.numbers(x), "2 0 1");
    }

    static void promise25_sixAtTheLastPostNeedsARound(Check check) {
        RingTasks x = new RingTasks();
        x.ring(6);
        check.due("colours() of 0 to 5", x.colours(), 0);
        check.dueText("numbers", Show.numbers(x), "0 1 2 1 0 1");
        x.ring(7);
        check.due("colours() of 0 to 6", x.colours(), 1);
        check.dueText("numbers", Show.numbers(x), "0 1 0 1 0 1 2");
    }

    static void promise25_fourRoundsAreTheMost(Check check) {
        RingTasks x = new RingTasks();
        Show.number(x, HIGHEST_BIT, 0, HIGHEST_BIT, HIGHEST_BIT / 2, 0, 32);
        check.due("colours()", x.colours(), 4);
        check.dueText("numbers", Show.numbers(x), "0 1 0 1 0 2");
    }

    static void promise25_fiveGoesFirstAndThreeLast(Check check) {
        RingTasks x = new RingTasks();
        Show.number(x, 5, 4, 3);
        check.due("colours()", x.colours(), 0);
        check.dueText("numbers", Show.numbers(x), "0 1 2");
        Show.number(x, 3, 4, 5);
        check.due("colours()", x.colours(), 0);
        check.dueText("numbers", Show.numbers(x), "2 1 0");
    }

    static void promise25_upToTwoNothingChanges(Check check) {
        RingTasks x = new RingTasks();
        Show.number(x, 2, 0, 2, 1);
        check.due("colours()", x.colours(), 0);
        check.dueText("numbers", Show.numbers(x), "2 0 2 1");
    }

    static void promise25_threeIsGivenUp(Check check) {
        RingTasks x = new RingTasks();
        Show.number(x, 3, 0, 3, 1, 2);
        check.due("colours()", x.colours(), 0);
        check.dueText("numbers", Show.numbers(x), "1 0 2 1 2");
    }

    static void promise25_theFirstAndTheLastAreNeighbours(Check check) {
        RingTasks x = new RingTasks();
        Show.number(x, 4, 1, 2, 0);
        check.due("colours()", x.colours(), 0);
        check.dueText("numbers, the first anew", Show.numbers(x), "2 1 2 0");
        Show.number(x, 0, 2, 1, 4);
        check.due("colours()", x.colours(), 0);
        check.dueText("numbers, the last anew", Show.numbers(x), "0 2 1 2");
    }

    static void promise25_of60AndOf59(Check check) {
        RingTasks x = new RingTasks();
        x.ring(60);
        check.due("colours() of 60", x.colours(), 1);
        check.dueText("numbers", Show.numbers(x), "0 1 ".repeat(30).trim());
        x.number(59, 5);
        check.due("colours() with 5 at the last", x.colours(), 0);
        check.due("told(59)", x.told(59), 1);
        RingTasks odd = new RingTasks();
        odd.ring(59);
        check.due("colours() of 59", odd.colours(), 1);
        check.dueText("numbers", Show.numbers(odd), "0 1 ".repeat(29) + "2");
    }

    static void promise25_againNothingChanges(Check check) {
        RingTasks x = new RingTasks();
        Show.number(x, MOST, 77, 12345, 6);
        x.colours();
        String numbers = Show.numbers(x);
        check.due("colours() again", x.colours(), 0);
        check.dueText("numbers", Show.numbers(x), numbers);
    }

    static void promise25_labelsStay(Check check) {
        RingTasks x = new RingTasks();
        Show.put(x, "0121210");
        x.colours();
        check.dueText("labels", Show.labels(x), "0121210");
    }

    // ---- promise 26: take

    static void promise26_theGreatestLabelIsTakenAndTheNextRefused(Check check) {
        for (int k = 1; k <= 6; k++) {
            RingTasks x = new RingTasks();
            x.labels(k);
            Show.number(x, 0, 0, k - 1);
            check.due("take() of k - 1", x.take(), 1);
            check.due("at(2)", x.at(2), k - 1);
            x.number(2, k);
            check.due("take() of k", x.take(), RingTasks.STATE);
            check.due("at(2)", x.at(2), k - 1);
        }
    }

    static void promise26_eachPostIsLookedAt(Check check) {
        for (int post = 0; post < 60; post++) {
            RingTasks x = new RingTasks();
            x.ring(60);
            x.round();
            x.number(post, 3);
            check.due("take() with 3 at " + post, x.take(), RingTasks.STATE);
            x.number(post, 2);
            check.due("take() with 2 at " + post, x.take(), 1);
            check.due("at(" + post + ")", x.at(post), 2);
        }
    }

    static void promise26_refusedChangesNothing(Check check) {
        RingTasks x = new RingTasks();
        Show.put(x, "0121");
        check.due("take()", x.take(), RingTasks.STATE);
        x.number(3, MOST);
        check.due("take() of 10 to the 9", x.take(), RingTasks.STATE);
        check.dueText("all", Show.all(x), "12 02 01 / 0121 / 0 1 2 1000000000");
    }

    static void promise26_faultsMayBeTaken(Check check) {
        RingTasks x = new RingTasks();
        Show.number(x, 2, 2, 2);
        check.due("take()", x.take(), 1);
        check.dueText("labels", Show.labels(x), "222");
        check.due("faults()", x.faults(), 3);
    }

    static void promise26_numbersStay(Check check) {
        RingTasks x = new RingTasks();
        Show.number(x, 2, 1, 2, 0);
        x.take();
        check.dueText("all", Show.all(x), "12 02 01 / 2120 / 2 1 2 0");
        x.put(0, 1);
        check.due("told(0) behind put", x.told(0), 2);
    }

    // ---- promise 27: count

    static void promise27_zeroIsTheLeastTaken(Check check) {
        check.due("count(0)", new RingTasks().count(0), 3);
        check.due("count(-1)", new RingTasks().count(-1), RingTasks.OUTSIDE);
    }

    static void promise27_fiveIsTheGreatestTaken(Check check) {
        check.due("count(5)", new RingTasks().count(5), 1);
        check.due("count(6)", new RingTasks().count(6), RingTasks.OUTSIDE);
    }

    static void promise27_farOutIsRefused(Check check) {
        for (int what : FAR_OUT) {
            check.due("count(" + what + ")", new RingTasks().count(what), RingTasks.OUTSIDE);
        }
    }

    static void promise27_labelsFrom1To6(Check check) {
        RingTasks x = new RingTasks();
        for (int k = 1; k <= 6; k++) {
            x.labels(k);
            check.due("count(0)", x.count(0), k);
        }
    }

    static void promise27_pairsFrom0To36(Check check) {
        RingTasks x = Show.of(6, "");
        check.due("count(1) of none", x.count(1), 0);
        int pairs = 0;
        for (int a = 0; a < 6; a++) {
            for (int b = 0; b < 6; b++) {
                x.allow(a, b, true);
                pairs++;
                check.due("count(1)", x.count(1), pairs);
            }
        }
    }

    static void promise27_aPairAndItsOtherWayAreTwo(Check check) {
        check.due("count(1)", Show.of(2, "01").count(1), 1);
        check.due("count(1) both ways", Show.of(2, "01 10").count(1), 2);
        check.due("count(1) with itself", Show.of(2, "11").count(1), 1);
    }

    static void promise27_pairsOfLabelsLeftOutAreNotCounted(Check check) {
        RingTasks x = new RingTasks();
        x.labels(6);
        x.labels(2);
        check.due("count(1)", x.count(1), 2);
    }

    static void promise27_postsFrom3To60(Check check) {
        RingTasks x = new RingTasks();
        check.due("count(2)", x.count(2), 3);
        x.ring(60);
        check.due("count(2)", x.count(2), 60);
    }

    static void promise27_unlikeNumbersFrom1To60(Check check) {
        RingTasks x = new RingTasks();
        x.ring(60);
        check.due("count(3) of all unlike", x.count(3), 60);
        for (int post = 0; post < 60; post++) {
            x.number(post, MOST);
        }
        check.due("count(3) of all alike", x.count(3), 1);
        x.number(59, 0);
        check.due("count(3) of one other", x.count(3), 2);
    }

    static void promise27_numbersOfPostsLeftOutAreNotCounted(Check check) {
        RingTasks x = new RingTasks();
        x.ring(60);
        x.ring(3);
        check.due("count(3)", x.count(3), 3);
    }

    static void promise27_likeNeighboursFrom0To60(Check check) {
        RingTasks x = new RingTasks();
        x.ring(60);
        check.due("count(4) of all unlike", x.count(4), 0);
        for (int post = 0; post < 60; post++) {
            x.number(post, 8);
        }
        check.due("count(4) of all alike", x.count(4), 60);
    }

    static void promise27_theLastAndTheFirstAreNeighbours(Check check) {
        RingTasks x = new RingTasks();
        Show.number(x, 7, 8, 9, 7);
        check.due("count(4)", x.count(4), 1);
        Show.number(x, 7, 7, 9, 8);
        check.due("count(4) of the first two", x.count(4), 1);
        Show.number(x, 7, 8, 7, 8);
        check.due("count(4) of no neighbours", x.count(4), 0);
    }

    static void promise27_labelsAtHandFrom1To6(Check check) {
        RingTasks x = new RingTasks();
        x.labels(6);
        x.ring(60);
        check.due("count(5) of one", x.count(5), 1);
        for (int label = 1; label < 6; label++) {
            x.put(60 - label, label);
            check.due("count(5)", x.count(5), label + 1);
        }
    }

    static void promise27_labelsWithout0AtHand(Check check) {
        RingTasks x = new RingTasks();
        Show.put(x, "1211");
        check.due("count(5)", x.count(5), 2);
    }

    static void promise27_labelsOfPostsLeftOutAreNotCounted(Check check) {
        RingTasks x = new RingTasks();
        Show.put(x, "0001");
        x.ring(3);
        check.due("count(5)", x.count(5), 1);
    }

    static void promise27_changesNothing(Check check) {
        RingTasks x = new RingTasks();
        Show.put(x, "0121");
        x.number(2, 8);
        for (int what = -2; what <= 7; what++) {
            x.count(what);
        }
        check.dueText("all", Show.all(x), "12 02 01 / 0121 / 0 1 8 3");
    }

    private static void refusesRound(Check check, int... numbers) {
        RingTasks x = withNumbers(numbers);
        String before = Show.all(x);
        check.due("round()", x.round(), RingTasks.STATE);
        check.dueText("all behind it", Show.all(x), before);
    }

    private static void refusesColours(Check check, int... numbers) {
        RingTasks x = withNumbers(numbers);
        String before = Show.all(x);
        check.due("colours()", x.colours(), RingTasks.STATE);
        check.dueText("all behind it", Show.all(x), before);
    }

    private static RingTasks withNumbers(int... numbers) {
        RingTasks x = new RingTasks();
        Show.number(x, numbers);
        x.put(0, 2);
        x.put(2, 1);
        return x;
    }
}
