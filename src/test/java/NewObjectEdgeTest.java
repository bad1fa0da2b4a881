/** Promise 1, case by case, and each call as the first one on a new object. */
public final class NewObjectEdgeTest {
    public static void main(String[] args) throws ReflectiveOperationException {
        Cases.run(NewObjectEdgeTest.class, 1, 1);
    }

    static void promise01_hasThreeLabels(Check check) {
        RingTasks x = new RingTasks();
        check.due("count(0)", x.count(0), 3);
        check.due("may(2, 0)", x.may(2, 0), 1);
        check.due("may(3, 0)", x.may(3, 0), RingTasks.UNKNOWN);
        check.due("labels(3)", x.labels(3), 3);
    }

    static void promise01_letsJustUnlikeLabelsStand(Check check) {
        RingTasks x = new RingTasks();
        for (int a = 0; a < 3; a++) {
            for (int b = 0; b < 3; b++) {
                check.due("may(" + a + ", " + b + ")", x.may(a, b), a == b ? 0 : 1);
            }
        }
    }

    static void promise01_hasARingOf3(Check check) {
        RingTasks x = new RingTasks();
        check.due("count(2)", x.count(2), 3);
        check.due("at(2)", x.at(2), 0);
        check.due("at(3)", x.at(3), RingTasks.UNKNOWN);
        check.due("ring(3)", x.ring(3), 3);
    }

    static void promise01_ringIsAllOfLabel0(Check check) {
        RingTasks x = new RingTasks();
        check.dueText("labels", Show.labels(x), "000");
        check.due("faults()", x.faults(), 3);
    }

    static void promise01_postIHasNumberI(Check check) {
        check.dueText("numbers", Show.numbers(new RingTasks()), "0 1 2");
    }

    static void promise01_objectsHaveNothingInCommon(Check check) {
        RingTasks one = new RingTasks();
        RingTasks other = new RingTasks();
        one.labels(6);
        one.allow(0, 0, true);
        one.ring(60);
        one.put(0, 5);
        one.number(0, 9);
        check.dueText("the other one", Show.all(other), "12 02 01 / 000 / 0 1 2");
        check.dueText("a later one", Show.all(new RingTasks()), "12 02 01 / 000 / 0 1 2");
    }

    static void promise01_is512CallsLongAsPromised(Check check) {
        RingTasks x = new RingTasks();
        for (int call = 1; call <= 510; call++) {
            check.due("call " + call, x.number(call % 3, call), call <= 2 ? call : call == 3 ? 0 : call - 3);
        }
        check.due("call 511", x.rings(5), 30);
        check.due("call 512", x.colours(), 1);
    }

    static void promise02_labelsOnANewObject(Check check) {
        check.due("labels(1)", new RingTasks().labels(1), 3);
    }

    static void promise03_allowOnANewObject(Check check) {
        check.due("allow(0, 1, false)", new RingTasks().allow(0, 1, false), 1);
        check.due("allow(2, 2, false)", new RingTasks().allow(2, 2, false), 0);
    }

    static void promise04_mayOnANewObject(Check check) {
        check.due("may(0, 2)", new RingTasks().may(0, 2), 1);
        check.due("may(2, 2)", new RingTasks().may(2, 2), 0);
    }

    static void promise05_ringsOnANewObject(Check check) {
        check.due("rings(1)", new RingTasks().rings(1), 0);
        check.due("rings(3)", new RingTasks().rings(3), 6);
    }

    static void promise06_firstOnANewObject(Check check) {
        check.due("first(3, 2)", new RingTasks().first(3, 2), 2);
        check.due("first(1, 0)", new RingTasks().first(1, 0), RingTasks.NONE);
    }

    static void promise07_walksOnANewObject(Check check) {
        check.due("walks(0, 1, 1)", new RingTasks().walks(0, 1, 1), 1);
        check.due("walks(0, 0, 2)", new RingTasks().walks(0, 0, 2), 2);
    }

    static void promise08_blocksOnANewObject(Check check) {
        check.due("blocks()", new RingTasks().blocks(), 1);
    }

    static void promise09_blockOnANewObject(Check check) {
        check.due("block(2)", new RingTasks().block(2), 0);
    }

    static void promise10_paceOnANewObject(Check check) {
        check.due("pace(2)", new RingTasks().pace(2), 1);
    }

    static void promise11_kindOnANewObject(Check check) {
        check.due("kind()", new RingTasks().kind(), 2);
    }

    static void promise12_sureOnANewObject(Check check) {
        check.due("sure()", new RingTasks().sure(), 2);
    }

    static void promise13_freeOnANewObject(Check check) {
        check.due("free(2)", new RingTasks().free(2), 2);
    }

    static void promise14_mirrorsOnANewObject(Check check) {
        check.due("mirrors()", new RingTasks().mirrors(), 1);
    }

    static void promise15_ringOnANewObject(Check check) {
        check.due("ring(60)", new RingTasks().ring(60), 3);
    }

    static void promise16_putOnANewObject(Check check) {
        check.due("put(2, 2)", new RingTasks().put(2, 2), 0);
    }

    static void promise17_atOnANewObject(Check check) {
        check.due("at(0)", new RingTasks().at(0), 0);
    }

    static void promise18_faultsOnANewObject(Check check) {
        check.due("faults()", new RingTasks().faults(), 3);
    }

    static void promise19_faultOnANewObject(Check check) {
        check.due("fault(2)", new RingTasks().fault(2), 2);
    }

    static void promise20_mendOnANewObject(Check check) {
        RingTasks x = new RingTasks();
        check.due("mend(2)", x.mend(2), 0);
        check.dueText("labels", Show.labels(x), "001");
    }

    static void promise21_freshOnANewObject(Check check) {
        RingTasks x = new RingTasks();
        check.due("fresh()", x.fresh(), 1);
        check.dueText("labels", Show.labels(x), "012");
    }

    static void promise22_numberOnANewObject(Check check) {
        check.due("number(2, 7)", new RingTasks().number(2, 7), 2);
    }

    static void promise23_toldOnANewObject(Check check) {
        check.due("told(2)", new RingTasks().told(2), 2);
    }

    static void promise24_roundOnANewObject(Check check) {
        RingTasks x = new RingTasks();
        check.due("round()", x.round(), 3);
        check.dueText("numbers", Show.numbers(x), "0 1 3");
    }

    static void promise25_coloursOnANewObject(Check check) {
        RingTasks x = new RingTasks();
        check.due("colours()", x.colours(), 0);
        check.dueText("numbers", Show.numbers(x), "0 1 2");
    }

    static void promise26_takeOnANewObject(Check check) {
        RingTasks x = new RingTasks();
        check.due("take()", x.take(), 1);
        check.dueText("labels", Show.labels(x), "012");
    }

    static void promise27_countOnANewObject(Check check) {
        int[] due = {3, 6, 3, 3, 0, 1};
        for (int what = 0; what < 6; what++) {
            check.due("count(" + what + ")", new RingTasks().count(what), due[what]);
        }
    }
}
