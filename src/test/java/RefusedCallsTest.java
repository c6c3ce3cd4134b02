import java.util.ArrayList;
import java.util.List;
import java.util.function.ToIntFunction;

/**
 * "Nothing changes then": of two objects made alike one is asked what is refused, and behind it both must answer
 * everything alike. The same holds for calls that only ask.
 */
public final class RefusedCallsTest extends Checks {
    private static final int[] AGES = {0, 17, 63, 120};
    private static final int[] SETS = {0, 1 + 2048, 2 + 64, 4095 - 512};
    private static final int KEPT = 1, LENGTH = 33, LAST_PLAN = 3;

    /** Its offices tell ages apart: paper 2 i is given from the age of person i on, the next one a year later. */
    private static String agesText() {
        StringBuilder b = new StringBuilder();
        for (int i = 0; i < AGES.length; i++) {
            int last = Math.min(120, AGES[i] + 1);
            b.append(String.format("o%d,%d,1,0;g%d,%d;", 2 * i, 1 + 10 * i, 2 * i, AGES[i]));
            b.append(String.format("o%d,%d,2,9;g%d,%d;", 2 * i + 1, 100 + i, 2 * i + 1, last));
        }
        return b.toString();
    }

    /** An object with something in every place where something can be told. */
    private static Counted rich(int kept, int textLength, int lastPlan) {
        Counted x = new Counted();
        if (kept > 0) {
            x.person(1, 7, 33);
            planned(x, 1, 4);
            x.layOther("o4,1,2,3;c4,4;");
            x.keep();
        }
        if (kept > 1) {
            x.person(2, 70, 44);
            planned(x, 2, 5, 5);
            x.layOther("o5,6,7,8;g5,44;");
            x.keep();
        }
        for (int person = 0; person <= 3; person++) {
            x.person(person, SETS[person], AGES[person]);
        }
        planned(x, 0, 0, 1, 2);
        planned(x, 1, 2);
        planned(x, 2);
        planned(x, 3);
        for (int i = 0; i < lastPlan; i++) {
            x.plan(3, i);
        }
        due("lay()", x.layOther("o0,5,1,3;o1,7,0,0;c1,2;a1,0;o2,9,2,4;n2,2,0,1,6;g2,17;o3,1,1,1;h3,11;a3,2;o9,2,0,0;a9,9;"), 12);
        x.wipe();
        x.writeAll("o7,77,7,7;a7,1;" + "n7,1,2,3;".repeat(40).substring(0, Math.max(0, textLength - 15)));
        return x;
    }

    private static void lookAtOffices(Counted x, List<Integer> seen) {
        for (int paper = 0; paper <= 11; paper++) {
            int fee = x.office(paper, 0);
            seen.add(fee);
            for (int what = 1; what <= 4 && fee >= 0; what++) {
                seen.add(x.office(paper, what));
            }
        }
    }

    private static void lookAtAll(Counted x, List<Integer> seen) {
        for (int what = 0; what <= 4; what++) {
            seen.add(x.count(what));
        }
        lookAtOffices(x, seen);
        for (int person = 0; person <= 3; person++) {
            seen.add(x.reach(person));
            seen.add(x.back(person));
            seen.add(x.ring(person, -1));
            seen.add(x.queue(15, person));
            for (int what = 0; what <= 3; what++) {
                seen.add(x.judge(person, what));
            }
        }
    }

    private static void lookAtAges(Counted x, List<Integer> seen) {
        seen.add(x.lay());
        for (int person = 0; person <= 3; person++) {
            seen.add(x.may(person, 0, 2 * person));
            seen.add(x.may(person, 0, 2 * person + 1));
            seen.add(x.judge(person, 0));
            seen.add(x.judge(person, 3));
        }
    }

    /** All that can be asked of an object, with what is kept last; nothing of it is left behind it. */
    private static List<Integer> lookedAt(Counted x) {
        List<Integer> seen = new ArrayList<>();
        lookAtAll(x, seen);
        seen.add(x.fault());
        seen.add(x.lay());
        lookAtOffices(x, seen);
        seen.add(x.wipe());
        seen.add(x.writeAll(agesText()));
        lookAtAges(x, seen);
        for (int i = 0; i < 3; i++) {
            int left = x.restore();
            seen.add(left);
            if (left >= 0) {
                lookAtAll(x, seen);
                lookAtAges(x, seen);
            }
        }
        for (int person = 0; person <= 3; person++) {
            seen.add(x.person(person, 0, 0));
            seen.add(x.noPlan(person));
        }
        return seen;
    }

    private static void changesNothing(String told, int kept, int length, int lastPlan, ToIntFunction<Counted> call, int want) {
        Counted one = rich(kept, length, lastPlan);
        Counted other = rich(kept, length, lastPlan);
        due(told, call.applyAsInt(one), want);
        due(told + " again", call.applyAsInt(one), want);
        same(told + " and all asked behind it", lookedAt(one), lookedAt(other));
    }

    private static void refused(String told, ToIntFunction<Counted> call, int want) {
        changesNothing(told, KEPT, LENGTH, LAST_PLAN, call, want);
    }

    private static void bad(String told, ToIntFunction<Counted> call) {
        refused(told, call, BAD);
    }

    /** A call that only asks. */
    private static void asks(String told, ToIntFunction<Counted> call) {
        changesNothing(told, KEPT, LENGTH, LAST_PLAN, call, call.applyAsInt(rich(KEPT, LENGTH, LAST_PLAN)));
    }

    static void promise02_personRefused() {
        bad("person(-1, 5, 5)", x -> x.person(-1, 5, 5));
        bad("person(4, 5, 5)", x -> x.person(4, 5, 5));
        for (int person = 0; person <= 3; person++) {
            int one = person;
            bad("set -1", x -> x.person(one, -1, 5));
            bad("set 4096", x -> x.person(one, 4096, 5));
            bad("age -1", x -> x.person(one, 5, -1));
            bad("age 121", x -> x.person(one, 5, 121));
        }
    }

    static void promise03_writeRefused() {
        bad("write(0, ..)", x -> x.write(0, 0x3b3b3b3b3b3b3b3bL));
        bad("write(9, ..)", x -> x.write(9, 0x3b3b3b3b3b3b3b3bL));
        bad("write(-1, ..)", x -> x.write(-1, 0x3b3b3b3b3b3b3b3bL));
        changesNothing("write(8, ..) behind 293", KEPT, 293, LAST_PLAN, x -> x.write(8, -1L), FULL);
        changesNothing("write(2, ..) behind 299", KEPT, 299, LAST_PLAN, x -> x.write(2, -1L), FULL);
        changesNothing("write(1, ..) behind 300", KEPT, 300, LAST_PLAN, x -> x.write(1, -1L), FULL);
    }

    static void promise05_faultAsksOnly() {
        asks("fault() of a sound text", Counted::fault);
        changesNothing("fault() of another", KEPT, 20, LAST_PLAN, Counted::fault, 15);
    }

    static void promise06_layRefused() {
        changesNothing("lay() of a text without end", KEPT, 20, LAST_PLAN, Counted::lay, NO);
        changesNothing("lay() of a full text without end", KEPT, 300, LAST_PLAN, Counted::lay, NO);
    }

    static void promise07_officeRefused() {
        bad("office(-1, 0)", x -> x.office(-1, 0));
        bad("office(12, 0)", x -> x.office(12, 0));
        bad("office(0, -1)", x -> x.office(0, -1));
        bad("office(0, 5)", x -> x.office(0, 5));
        refused("office(8, 0)", x -> x.office(8, 0), NONE);
        asks("office(0, 0)", x -> x.office(0, 0));
    }

    static void promise08_mayRefused() {
        bad("may(-1, 9, 2)", x -> x.may(-1, 9, 2));
        bad("may(4, 9, 2)", x -> x.may(4, 9, 2));
        bad("may(0, -1, 2)", x -> x.may(0, -1, 2));
        bad("may(0, 4096, 2)", x -> x.may(0, 4096, 2));
        bad("may(0, 9, -1)", x -> x.may(0, 9, -1));
        bad("may(0, 9, 12)", x -> x.may(0, 9, 12));
        asks("may(1, 4095, 2)", x -> x.may(1, 4095, 2));
    }

    static void promise09_lackRefused() {
        bad("lack(-1, 9, 2)", x -> x.lack(-1, 9, 2));
        bad("lack(4, 9, 2)", x -> x.lack(4, 9, 2));
        bad("lack(0, -1, 2)", x -> x.lack(0, -1, 2));
        bad("lack(0, 4096, 2)", x -> x.lack(0, 4096, 2));
        bad("lack(0, 9, -1)", x -> x.lack(0, 9, -1));
        bad("lack(0, 9, 12)", x -> x.lack(0, 9, 12));
        refused("lack(0, 9, 8)", x -> x.lack(0, 9, 8), NONE);
        asks("lack(1, 4095, 2)", x -> x.lack(1, 4095, 2));
    }

    static void promise10_reachRefused() {
        bad("reach(-1)", x -> x.reach(-1));
        bad("reach(4)", x -> x.reach(4));
        asks("reach(0)", x -> x.reach(0));
    }

    static void promise11_roundRefused() {
        bad("round(-1, 0)", x -> x.round(-1, 0));
        bad("round(4, 0)", x -> x.round(4, 0));
        bad("round(0, -1)", x -> x.round(0, -1));
        bad("round(0, 12)", x -> x.round(0, 12));
        refused("round(0, 8)", x -> x.round(0, 8), NONE);
        asks("round(0, 0)", x -> x.round(0, 0));
    }

    static void promise12_ringRefused() {
        bad("ring(-1, 0)", x -> x.ring(-1, 0));
        bad("ring(4, 0)", x -> x.ring(4, 0));
        bad("ring(0, -2)", x -> x.ring(0, -2));
        refused("ring(0, 1)", x -> x.ring(0, 1), NONE);
        asks("ring(0, -1)", x -> x.ring(0, -1));
    }

    static void promise13_backRefused() {
        bad("back(-1)", x -> x.back(-1));
        bad("back(4)", x -> x.back(4));
        asks("back(3)", x -> x.back(3));
    }

    static void promise14_openedRefused() {
        bad("opened(-1, 2, 0)", x -> x.opened(-1, 2, 0));
        bad("opened(4, 2, 0)", x -> x.opened(4, 2, 0));
        bad("opened(0, -1, 0)", x -> x.opened(0, -1, 0));
        bad("opened(0, 12, 0)", x -> x.opened(0, 12, 0));
        bad("opened(0, 2, -1)", x -> x.opened(0, 2, -1));
        bad("opened(0, 2, 3)", x -> x.opened(0, 2, 3));
        refused("opened(0, 8, 0)", x -> x.opened(0, 8, 0), NONE);
        refused("opened(2, 9, 0)", x -> x.opened(2, 9, 0), NONE);
        asks("opened(1, 3, 0)", x -> x.opened(1, 3, 0));
    }

    static void promise15_cheapestRefused() {
        bad("cheapest(-1, 2, 0)", x -> x.cheapest(-1, 2, 0));
        bad("cheapest(4, 2, 0)", x -> x.cheapest(4, 2, 0));
        bad("cheapest(0, -1, 0)", x -> x.cheapest(0, -1, 0));
        bad("cheapest(0, 12, 0)", x -> x.cheapest(0, 12, 0));
        bad("cheapest(0, 2, -1)", x -> x.cheapest(0, 2, -1));
        bad("cheapest(0, 2, 3)", x -> x.cheapest(0, 2, 3));
        refused("cheapest(0, 8, 0)", x -> x.cheapest(0, 8, 0), NONE);
        asks("cheapest(1, 3, 1)", x -> x.cheapest(1, 3, 1));
    }

    static void promise16_soonestRefused() {
        bad("soonest(-1, 2)", x -> x.soonest(-1, 2));
        bad("soonest(4, 2)", x -> x.soonest(4, 2));
        bad("soonest(0, -1)", x -> x.soonest(0, -1));
        bad("soonest(0, 12)", x -> x.soonest(0, 12));
        refused("soonest(0, 8)", x -> x.soonest(0, 8), NONE);
        asks("soonest(1, 3)", x -> x.soonest(1, 3));
    }

    static void promise17_planRefused() {
        bad("plan(-1, 2)", x -> x.plan(-1, 2));
        bad("plan(4, 2)", x -> x.plan(4, 2));
        for (int person = 0; person <= 3; person++) {
            int one = person;
            bad("plan(.., -1)", x -> x.plan(one, -1));
            bad("plan(.., 12)", x -> x.plan(one, 12));
        }
        changesNothing("plan(3, 1) behind twelve", KEPT, LENGTH, 12, x -> x.plan(3, 1), FULL);
    }

    static void promise18_noPlanRefused() {
        bad("noPlan(-1)", x -> x.noPlan(-1));
        bad("noPlan(4)", x -> x.noPlan(4));
    }

    static void promise19_judgeRefused() {
        bad("judge(-1, 0)", x -> x.judge(-1, 0));
        bad("judge(4, 0)", x -> x.judge(4, 0));
        bad("judge(0, -1)", x -> x.judge(0, -1));
        bad("judge(0, 4)", x -> x.judge(0, 4));
        asks("judge(0, 0)", x -> x.judge(0, 0));
    }

    static void promise20_mendRefused() {
        bad("mend(0, 2, 0)", x -> x.mend(0, 2, 0));
        bad("mend(16, 2, 0)", x -> x.mend(16, 2, 0));
        bad("mend(15, -1, 0)", x -> x.mend(15, -1, 0));
        bad("mend(15, 12, 0)", x -> x.mend(15, 12, 0));
        bad("mend(15, 2, -2)", x -> x.mend(15, 2, -2));
        refused("mend(15, 8, 0)", x -> x.mend(15, 8, 0), NONE);
        refused("mend(15, 2, 3)", x -> x.mend(15, 2, 3), NONE);
        asks("mend(15, 2, -1)", x -> x.mend(15, 2, -1));
        asks("mend(15, 3, 0)", x -> x.mend(15, 3, 0));
    }

    static void promise21_queueRefused() {
        bad("queue(0, 0)", x -> x.queue(0, 0));
        bad("queue(16, 0)", x -> x.queue(16, 0));
        bad("queue(15, -1)", x -> x.queue(15, -1));
        bad("queue(15, 4)", x -> x.queue(15, 4));
        bad("queue(14, 0)", x -> x.queue(14, 0));
        asks("queue(15, 0)", x -> x.queue(15, 0));
    }

    static void promise22_keepRefused() {
        changesNothing("keep() of a third", 2, LENGTH, LAST_PLAN, Counted::keep, FULL);
    }

    static void promise23_restoreRefused() {
        changesNothing("restore() of none", 0, LENGTH, LAST_PLAN, Counted::restore, NO);
    }

    static void promise24_countRefused() {
        bad("count(-1)", x -> x.count(-1));
        bad("count(5)", x -> x.count(5));
        asks("count(3)", x -> x.count(3));
    }

    public static void main(String[] args) throws Exception {
        runAll(RefusedCallsTest.class, 5, 24);
    }
}
