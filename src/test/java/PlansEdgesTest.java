import java.util.Arrays;

/** Promises 15 to 24: each sentence that names an edge, with the last value that is taken and the first that is not. */
public final class PlansEdgesTest extends Checks {
    private static final String TWELVE = offices(12, "0,0,0");

    // ---- promise 15: cheapest

    private static void cheapestIs(String told, Counted x, int person, int paper, int... want) {
        for (int what = 0; what <= 2; what++) {
            due(told + ", what = " + what, x.cheapest(person, paper, what), want[what]);
        }
    }

    static void promise15_aPersonIs0To3() {
        edges("person", 0, 3, n -> laid(TWELVE).cheapest(n, 0, 0));
    }

    static void promise15_aPaperIs0To11() {
        edges("paper", 0, 11, n -> laid(TWELVE).cheapest(0, n, 0));
    }

    static void promise15_whatIs0To2() {
        edges("what", 0, 2, n -> laid(TWELVE).cheapest(0, 0, n));
    }

    static void promise15_badComesAheadOfNone() {
        Counted x = new Counted();
        cheapestIs("no office", x, 0, 0, NONE, NONE, NONE);
        due("what below", x.cheapest(0, 0, -1), BAD);
        due("what above", x.cheapest(0, 0, 3), BAD);
        due("person", x.cheapest(4, 0, 0), BAD);
        due("person", x.cheapest(-1, 0, 0), BAD);
        due("paper", x.cheapest(0, 12, 0), BAD);
        due("paper", x.cheapest(0, -1, 0), BAD);
    }

    static void promise15_whatIsHadCostsNothingAndHasNoFirst() {
        Counted x = laid("o0,9,0,0;o1,0,0,0;");
        x.person(0, 1 + 2048, 0);
        cheapestIs("had, with an office", x, 0, 0, 0, 2049, NONE);
        cheapestIs("had, without office", x, 0, 11, 0, 2049, NONE);
        x.person(0, ALL, 0);
        cheapestIs("all had", x, 0, 5, 0, ALL, NONE);
    }

    static void promise15_theLowestAndTheHighestFees() {
        cheapestIs("nothing", laid("o0,0,0,0;"), 0, 0, 0, 1, 0);
        cheapestIs("999", laid("o11,999,0,0;"), 0, 11, 999, 2048, 11);
        cheapestIs("twelve times 999", laid(offices(12, "999,0,0") + chain(12)), 0, 11, 11988, ALL, 0);
    }

    static void promise15_lessFeesAheadOfLeastBits() {
        cheapestIs("one less", laid("o0,0,0,0;n0,1,1,2;o1,6,0,0;o2,5,0,0;"), 0, 0, 5, 5, 2);
        cheapestIs("as much", laid("o0,0,0,0;n0,1,1,2;o1,5,0,0;o2,5,0,0;"), 0, 0, 5, 3, 1);
        cheapestIs("one more", laid("o0,0,0,0;n0,1,1,2;o1,4,0,0;o2,5,0,0;"), 0, 0, 4, 3, 1);
    }

    static void promise15_theLeastBitsThoughMorePapers() {
        cheapestIs("0, 1 and 2 ahead of 0 and 3", laid("o0,1,0,0;n0,1,2,3;o1,2,0,0;o2,3,0,0;a2,1;o3,5,0,0;"), 0, 0, 6, 7, 1);
        cheapestIs("what costs nothing and serves nothing is left out", laid("o3,5,0,0;o0,0,0,0;"), 0, 3, 5, 8, 3);
    }

    static void promise15_onePaperServesTwice() {
        Counted x = laid("o0,1,0,0;a0,1,2;o1,1,0,0;n1,1,3,4;o2,1,0,0;n2,1,4,5;o3,3,0,0;o4,5,0,0;o5,3,0,0;");
        cheapestIs("4 for both", x, 0, 0, 8, 1 + 2 + 4 + 16, 4);
        x.layOther("o0,1,0,0;a0,1,2;o1,1,0,0;n1,1,3,4;o2,1,0,0;n2,1,4,5;o3,3,0,0;o4,7,0,0;o5,3,0,0;");
        cheapestIs("3 and 5 are less", x, 0, 0, 9, 1 + 2 + 4 + 8 + 32, 3);
    }

    static void promise15_firstIsTheLowestThatItMayHaveAtFirst() {
        cheapestIs("not the lowest of the set", laid("o0,0,0,0;a0,1,2;o1,0,0,0;a1,2;o2,0,0,0;"), 0, 0, 0, 7, 2);
        Counted x = laid("o0,0,0,0;o1,0,0,0;a1,0;o2,0,0,0;a2,1;");
        x.person(0, 1, 0);
        cheapestIs("none that is had", x, 0, 2, 0, 7, 1);
    }

    static void promise15_hHoldsOnlyByWhatAnotherHasAtFirst() {
        Counted x = laid("o0,2,0,0;o1,3,0,0;h1,0;");
        cheapestIs("others only reach it", x, 0, 1, NONE, NONE, NONE);
        x.person(0, 1, 0);
        cheapestIs("it has it itself", x, 0, 1, NONE, NONE, NONE);
        x.person(3, 1, 0);
        cheapestIs("another has it at first", x, 0, 1, 3, 3, 1);
    }

    static void promise15_noWayIsNone() {
        Counted x = laid("o0,0,0,0;g0,18;o1,0,0,0;a1,1;o2,0,0,0;a2,3;");
        x.person(0, 0, 17);
        cheapestIs("too young", x, 0, 0, NONE, NONE, NONE);
        cheapestIs("needs itself", x, 0, 1, NONE, NONE, NONE);
        cheapestIs("needs one without office", x, 0, 2, NONE, NONE, NONE);
        x.person(0, 0, 18);
        cheapestIs("just old enough", x, 0, 0, 0, 1, 0);
    }

    // ---- promise 16: soonest

    static void promise16_aPersonIs0To3() {
        edges("person", 0, 3, n -> laid(TWELVE).soonest(n, 0));
    }

    static void promise16_aPaperIs0To11() {
        edges("paper", 0, 11, n -> laid(TWELVE).soonest(0, n));
    }

    static void promise16_badComesAheadOfNone() {
        Counted x = new Counted();
        due("no office", x.soonest(0, 0), NONE);
        due("person", x.soonest(4, 0), BAD);
        due("person", x.soonest(-1, 0), BAD);
        due("paper", x.soonest(0, 12), BAD);
        due("paper", x.soonest(0, -1), BAD);
    }

    static void promise16_hadAtFirstIsDay0() {
        Counted x = laid("o0,0,99,0;");
        due("not had", x.soonest(0, 0), 99);
        x.person(0, 1 + 2048, 0);
        due("had", x.soonest(0, 0), 0);
        due("had, without office", x.soonest(0, 11), 0);
    }

    static void promise16_theFewestAndTheMostDays() {
        due("no DAYS", laid("o0,0,0,0;").soonest(0, 0), 0);
        due("a chain without DAYS", laid(TWELVE + chain(12)).soonest(0, 11), 0);
        due("twelve times 99", laid(offices(12, "0,99,0") + chain(12)).soonest(0, 11), 1188);
    }

    static void promise16_ofKOfThoseTheKthCounts() {
        for (int k = 1; k <= 6; k++) {
            Counted x = laid("o0,0,1,0;n0," + k + ",1,2,3,4,5,6;o1,0,60,0;o2,0,50,0;o3,0,40,0;o4,0,30,0;o5,0,20,0;o6,0,10,0;");
            due(k + " of six", x.soonest(0, 0), 10 * k + 1);
        }
    }

    static void promise16_whatIsHadAtFirstCountsAmongK() {
        Counted x = laid("o0,0,1,0;n0,2,1,2,3;o1,0,30,0;o2,0,20,0;o3,0,10,0;");
        due("none had", x.soonest(0, 0), 21);
        x.person(0, 2, 0);
        due("K less 1 had", x.soonest(0, 0), 11);
        x.person(0, 2 + 4, 0);
        due("K had", x.soonest(0, 0), 1);
    }

    static void promise16_ofAllTheLastCounts() {
        Counted x = laid("o0,0,5,0;a0,1,2;a0,3;o1,0,7,0;o2,0,9,0;o3,0,8,0;");
        due("the last of three", x.soonest(0, 0), 14);
        x.person(0, 4, 0);
        due("one is had at first", x.soonest(0, 0), 13);
    }

    static void promise16_anyNumberAtOnceNeverLapsing() {
        due("at once", laid("o0,0,0,0;a0,1,2,3;o1,0,30,0;o2,0,30,0;o3,0,30,0;").soonest(0, 0), 30);
        due("never lapsing", laid("o0,0,1,0;a0,1,2;o1,0,0,1;o2,0,50,0;").soonest(0, 0), 51);
    }

    static void promise16_theSoonerOfTwoWays() {
        due("the longer chain", laid("o0,0,1,0;n0,1,1,2;o1,0,9,0;o2,0,4,0;a2,3;o3,0,4,0;").soonest(0, 0), 9);
        due("as soon", laid("o0,0,1,0;n0,1,1,2;o1,0,8,0;o2,0,4,0;a2,3;o3,0,4,0;").soonest(0, 0), 9);
        due("the shorter one", laid("o0,0,1,0;n0,1,1,2;o1,0,7,0;o2,0,4,0;a2,3;o3,0,4,0;").soonest(0, 0), 8);
    }

    static void promise16_hHoldsOnlyByWhatAnotherHasAtFirst() {
        Counted x = laid("o0,0,2,0;o1,0,3,0;h1,0;");
        due("others only reach it", x.soonest(0, 1), NONE);
        x.person(0, 1, 0);
        due("it has it itself", x.soonest(0, 1), NONE);
        x.person(3, 1, 0);
        due("another has it at first", x.soonest(0, 1), 3);
    }

    static void promise16_noWayIsNone() {
        Counted x = laid("o0,0,0,0;g0,18;o1,0,0,0;a1,1;");
        x.person(0, 0, 17);
        due("too young", x.soonest(0, 0), NONE);
        due("needs itself", x.soonest(0, 1), NONE);
        x.person(0, 0, 18);
        due("just old enough", x.soonest(0, 0), 0);
    }

    // ---- promise 17: plan

    static void promise17_aPersonIs0To3() {
        edges("person", 0, 3, n -> new Counted().plan(n, 0));
    }

    static void promise17_aPaperIs0To11() {
        edges("paper", 0, 11, n -> new Counted().plan(0, n));
    }

    private static Counted fullPlan(int person) {
        Counted x = new Counted();
        for (int i = 1; i <= 12; i++) {
            due("the " + i + "-th of the PLAN", x.plan(person, 11), i);
        }
        return x;
    }

    static void promise17_aPlanHasTwelveAtMost() {
        for (int person = 0; person <= 3; person++) {
            Counted x = fullPlan(person);
            due("a thirteenth", x.plan(person, 0), FULL);
            due("once more", x.plan(person, 0), FULL);
            due("count(3)", x.count(3), 12);
            due("noPlan", x.noPlan(person), 12);
            due("room again", x.plan(person, 0), 1);
        }
    }

    static void promise17_badComesAheadOfFull() {
        Counted x = fullPlan(3);
        due("paper above", x.plan(3, 12), BAD);
        due("paper below", x.plan(3, -1), BAD);
        due("person above", x.plan(4, 0), BAD);
        due("person below", x.plan(-1, 0), BAD);
        due("full", x.plan(3, 0), FULL);
    }

    static void promise17_eachPersonHasItsOwnPlan() {
        Counted x = laid("o0,1,0,0;o1,10,0,0;o2,100,0,0;o3,500,0,0;");
        for (int i = 1; i <= 12; i++) {
            for (int person = 0; person <= 3; person++) {
                due("plan", x.plan(person, person), i);
            }
        }
        due("count(3)", x.count(3), 48);
        int[] fees = {12, 120, 1200, 6000};
        for (int person = 0; person <= 3; person++) {
            due("FEES of " + person, x.judge(person, 3), fees[person]);
        }
    }

    static void promise17_aPaperMayStandInAPlanThatHasNoOffice() {
        Counted x = new Counted();
        due("no office", x.plan(0, 5), 1);
        due("the same again", x.plan(0, 5), 2);
    }

    // ---- promise 18: noPlan

    static void promise18_aPersonIs0To3() {
        edges("person", 0, 3, n -> new Counted().noPlan(n));
    }

    static void promise18_theEmptyAndTheFullPlan() {
        Counted x = fullPlan(2);
        due("an empty one", x.noPlan(1), 0);
        due("a full one", x.noPlan(2), 12);
        due("empty now", x.noPlan(2), 0);
        due("count(3)", x.count(3), 0);
    }

    static void promise18_othersPlansStay() {
        Counted x = new Counted();
        for (int person = 0; person <= 3; person++) {
            planned(x, person, Arrays.copyOf(new int[4], person + 1));
        }
        due("of 1", x.noPlan(1), 2);
        due("of 0", x.noPlan(0), 1);
        due("of 3", x.noPlan(3), 4);
        due("of 2", x.noPlan(2), 3);
    }

    static void promise18_nothingIsLeftOfTheOldPlan() {
        Counted x = laid("o0,7,0,0;");
        planned(x, 0, 0, 5);
        due("5 refuses", x.judge(0, 0), 1);
        planned(x, 0, 0);
        due("nothing refuses", x.judge(0, 0), NONE);
        due("FEES", x.judge(0, 3), 7);
    }

    // ---- promise 19: judge

    private static void judgedIs(String told, Counted x, int person, int... want) {
        for (int what = 0; what <= 3; what++) {
            due(told + ", what = " + what, x.judge(person, what), want[what]);
        }
    }

    static void promise19_aPersonIs0To3() {
        edges("person", 0, 3, n -> new Counted().judge(n, 0));
    }

    static void promise19_whatIs0To3() {
        edges("what", 0, 3, n -> new Counted().judge(0, n));
    }

    static void promise19_badComesAheadOfNone() {
        Counted x = new Counted();
        planned(x, 0, 0);
        judgedIs("no office", x, 0, 0, NONE, NONE, NONE);
        due("what above", x.judge(0, 4), BAD);
        due("what below", x.judge(0, -1), BAD);
        due("person above", x.judge(4, 0), BAD);
        due("person below", x.judge(-1, 0), BAD);
    }

    static void promise19_anEmptyPlanIsHadOnDay0ForNothing() {
        judgedIs("an empty plan", new Counted(), 3, NONE, NONE, 0, 0);
    }

    static void promise19_aFullPlanIsLookedAtToItsEnd() {
        Counted x = laid("o0,999,99,0;o1,0,0,0;g1,1;");
        planned(x, 0, 0, 0, 0, 0, 0, 0, 0, 0, 0, 0, 0, 0);
        judgedIs("twelve", x, 0, NONE, NONE, 1188, 11988);
        planned(x, 0, 0, 0, 0, 0, 0, 0, 0, 0, 0, 0, 0, 1);
        judgedIs("the last refuses", x, 0, 11, 2, NONE, NONE);
        planned(x, 0, 1, 0, 0, 0, 0, 0, 0, 0, 0, 0, 0, 1);
        judgedIs("the first refuses", x, 0, 0, 2, NONE, NONE);
    }

    static void promise19_noOfficeHasNoNeed() {
        Counted x = laid("o0,0,0,0;g0,1;");
        planned(x, 0, 11, 0);
        judgedIs("no office", x, 0, 0, NONE, NONE, NONE);
        planned(x, 0, 0, 11);
        judgedIs("the first that refuses", x, 0, 0, 1, NONE, NONE);
    }

    static void promise19_itsFirstNeedThatLacks() {
        Counted x = laid("o0,0,0,0;g0,0;a0,1;h0,2;g0,1;");
        planned(x, 0, 0);
        judgedIs("not the first NEED, the first that lacks", x, 0, 0, 2, NONE, NONE);
        x.person(0, 2, 0);
        judgedIs("the next", x, 0, 0, 3, NONE, NONE);
        x.person(1, 4, 0);
        judgedIs("the next", x, 0, 0, 4, NONE, NONE);
        x.person(0, 2, 1);
        judgedIs("all hold", x, 0, NONE, NONE, 0, 0);
    }

    static void promise19_aNeedBehindItem31IsTold() {
        Counted x = laid("o0,0,0,0;" + "g0,0;".repeat(30) + "g0,1;");
        planned(x, 0, 0);
        due("ITEM 31", x.judge(0, 1), 31);
        x.layOther("o0,0,0,0;" + "g0,0;".repeat(31) + "g0,1;");
        due("ITEM 32", x.judge(0, 1), 32);
        x.layOther("o0,0,0,0;" + "g0,0;".repeat(57) + "g0,1;");
        due("ITEM 58", x.judge(0, 1), 58);
    }

    /** Paper 0 is good for so many days; paper 2, that needs it, is asked for so many days after it came. */
    private static void goodFor(int good, int later, boolean so) {
        Counted x = laid("o0,0,0," + good + ";o1,0," + later + ",0;o2,0,0,0;a2,0;");
        planned(x, 0, 0, 1, 2);
        judgedIs("good for " + good + ", asked " + later + " later", x, 0,
            so ? new int[] {NONE, NONE, later, 0} : new int[] {2, 3, NONE, NONE});
    }

    static void promise19_itIsGoodToDayDAndLLess1() {
        goodFor(1, 0, true);
        goodFor(1, 1, false);
        goodFor(2, 1, true);
        goodFor(2, 2, false);
        goodFor(99, 98, true);
        goodFor(99, 99, false);
        goodFor(100, 99, true);
    }

    static void promise19_daysCountFromTheDayOnWhichItComes() {
        Counted x = laid("o0,0,9,1;o1,0,1,0;o2,0,0,0;a2,0;");
        planned(x, 0, 0, 2);
        judgedIs("on the day itself", x, 0, NONE, NONE, 9, 0);
        planned(x, 0, 0, 1, 2);
        judgedIs("a day later", x, 0, 2, 3, NONE, NONE);
    }

    static void promise19_l0IsForEver() {
        goodFor(0, 99, true);
        Counted x = laid("o0,0,0,0;o1,0,99,0;o2,0,0,0;a2,0;");
        planned(x, 0, 0, 1, 1, 1, 1, 1, 1, 1, 1, 1, 1, 2);
        judgedIs("990 days later", x, 0, NONE, NONE, 990, 0);
    }

    static void promise19_longGoodOnesLapseToTheDay() {
        for (int good : new int[] {990, 991, 999}) {
            Counted x = laid("o0,0,0," + good + ";o1,0,99,0;o2,0,0,0;a2,0;");
            planned(x, 0, 0, 1, 1, 1, 1, 1, 1, 1, 1, 1, 1, 2);
            due("990 days later, good for " + good, x.judge(0, 0), good > 990 ? NONE : 11);
        }
    }

    static void promise19_atFirstHadOnesAreGoodForEver() {
        Counted x = laid("o0,0,0,1;o1,0,5,0;o2,0,0,0;a2,0;");
        x.person(0, 1, 0);
        planned(x, 0, 1, 2);
        judgedIs("had at first", x, 0, NONE, NONE, 5, 0);
        planned(x, 0, 0, 1, 2);
        judgedIs("had at first and got again", x, 0, NONE, NONE, 5, 0);
        x.person(0, 0, 0);
        judgedIs("not had at first", x, 0, 2, 3, NONE, NONE);
    }

    static void promise19_gotAgainItIsGoodAgain() {
        Counted x = laid("o0,1,0,1;o1,0,5,0;o2,0,0,0;a2,0;");
        planned(x, 0, 0, 1, 2);
        judgedIs("lapsed", x, 0, 2, 3, NONE, NONE);
        planned(x, 0, 0, 1, 0, 2);
        judgedIs("got again", x, 0, NONE, NONE, 5, 2);
    }

    static void promise19_aLapsedOneIsNoneOfK() {
        Counted x = laid("o0,0,0,1;o1,0,1,1;o2,0,0,0;n2,2,0,1,3;");
        planned(x, 0, 1, 0, 2);
        judgedIs("both good", x, 0, NONE, NONE, 1, 0);
        planned(x, 0, 0, 1, 2);
        judgedIs("0 has lapsed", x, 0, 2, 3, NONE, NONE);
        x.person(0, 8, 0);
        judgedIs("3 is had at first in its place", x, 0, NONE, NONE, 1, 0);
    }

    static void promise19_othersHaveWhatTheyHaveAtFirst() {
        Counted x = laid("o0,0,0,0;o1,0,0,0;h1,0;");
        planned(x, 0, 0, 1);
        planned(x, 1, 0);
        judgedIs("nobody else has it at first", x, 0, 1, 2, NONE, NONE);
        x.person(1, 1, 0);
        judgedIs("another has it at first", x, 0, NONE, NONE, 0, 0);
    }

    // ---- promise 20: mend

    private static void mendedIs(String told, Counted x, int persons, int paper, int... items) {
        due(told + ", how many", x.mend(persons, paper, -1), items.length);
        for (int i = 0; i < items.length; i++) {
            due(told + ", the " + i + "-th", x.mend(persons, paper, i), items[i]);
        }
        due(told + ", one more", x.mend(persons, paper, items.length), NONE);
    }

    private static void notMended(String told, Counted x, int persons, int paper) {
        due(told + ", how many", x.mend(persons, paper, -1), NONE);
        due(told + ", the first", x.mend(persons, paper, 0), NONE);
    }

    static void promise20_aSetOfPersonsIs1To15() {
        edges("persons", 1, 15, n -> laid(TWELVE).mend(n, 0, -1));
    }

    static void promise20_aPaperIs0To11() {
        edges("paper", 0, 11, n -> laid(TWELVE).mend(1, n, -1));
    }

    static void promise20_iIsMinus1Or0OrMore() {
        Counted x = laid("o0,0,0,0;g0,1;g0,2;g0,3;");
        due("-2", x.mend(1, 0, -2), BAD);
        due("-3", x.mend(1, 0, -3), BAD);
        due("the lowest int", x.mend(1, 0, Integer.MIN_VALUE), BAD);
        due("-1", x.mend(1, 0, -1), 3);
        due("0", x.mend(1, 0, 0), 1);
        due("2", x.mend(1, 0, 2), 3);
        due("3", x.mend(1, 0, 3), NONE);
    }

    static void promise20_badComesAheadOfNone() {
        Counted x = new Counted();
        notMended("no office", x, 1, 0);
        due("i", x.mend(1, 0, -2), BAD);
        due("persons above", x.mend(16, 0, 0), BAD);
        due("persons below", x.mend(0, 0, 0), BAD);
        due("paper above", x.mend(1, 12, 0), BAD);
        due("paper below", x.mend(1, -1, 0), BAD);
    }

    static void promise20_0ChangesIfEachReachesIt() {
        Counted x = laid("o0,0,0,0;o1,0,0,0;g1,5;");
        mendedIs("reached by all", x, 15, 0);
        x.person(3, 2, 0);
        mendedIs("had", x, 8, 1);
        mendedIs("had by one of two", x, 9, 1, 2);
    }

    static void promise20_threeChangesAreTheMost() {
        mendedIs("three", laid("o0,0,0,0;g0,1;g0,2;g0,3;"), 1, 0, 1, 2, 3);
        notMended("four", laid("o0,0,0,0;g0,1;g0,2;g0,3;g0,4;"), 1, 0);
        mendedIs("K = 3", laid("o0,0,0,0;n0,3,1,2,3;"), 1, 0, 1, 1, 1);
        notMended("K = 4", laid("o0,0,0,0;n0,4,1,2,3,4;"), 1, 0);
    }

    static void promise20_anNGoesDownTo0() {
        Counted x = laid("o0,0,0,0;n0,3,1,2,3;");
        x.person(0, 14, 0);
        mendedIs("K had", x, 1, 0);
        x.person(0, 6, 0);
        mendedIs("K less 1 had", x, 1, 0, 1);
        x.person(0, 2, 0);
        mendedIs("K less 2 had", x, 1, 0, 1, 1);
        x.person(0, 0, 0);
        mendedIs("none had", x, 1, 0, 1, 1, 1);
        Counted six = laid("o0,0,0,0;n0,6,1,2,3,4,5,6;");
        six.person(0, 2 + 4 + 8, 0);
        mendedIs("three of six had", six, 1, 0, 1, 1, 1);
        six.person(0, 2 + 4, 0);
        notMended("two of six had", six, 1, 0);
    }

    static void promise20_anABecomesN1AndNoMore() {
        Counted x = laid("o0,0,0,0;a0,1,2,3,4,5,6;");
        notMended("none had", x, 1, 0);
        x.person(0, 64, 0);
        mendedIs("one of six had", x, 1, 0, 1);
        x.person(0, 2 + 4 + 8 + 16 + 32, 0);
        mendedIs("five of six had", x, 1, 0, 1);
        notMended("an a of one paper", laid("o0,0,0,0;a0,1;"), 1, 0);
        notMended("an a of itself", laid("o0,0,0,0;a0,0;"), 1, 0);
    }

    static void promise20_anAThatIsN1StillNeedsOne() {
        Counted x = laid("o0,0,0,0;a0,1,2;");
        x.person(0, 2, 0);
        x.person(1, 4, 0);
        mendedIs("each has one of two", x, 3, 0, 1);
        notMended("a third has none", x, 7, 0);
        x.person(2, 6, 0);
        mendedIs("a third has both", x, 7, 0, 1);
    }

    static void promise20_aGAndAnHGo() {
        mendedIs("a g", laid("o0,0,0,0;g0,120;"), 1, 0, 1);
        mendedIs("an h", laid("o0,0,0,0;h0,11;"), 1, 0, 1);
        Counted x = laid("o0,0,0,0;g0,18;h0,1;");
        x.person(0, 0, 17);
        mendedIs("both", x, 1, 0, 1, 2);
        x.person(0, 0, 18);
        mendedIs("just old enough", x, 1, 0, 2);
        x.person(3, 2, 0);
        mendedIs("another has it", x, 1, 0);
    }

    static void promise20_ofSeveralTheLowestItems() {
        mendedIs("the first", laid("o1,0,0,0;g1,9;o2,0,0,0;g2,9;o0,0,0,0;n0,1,1,2;"), 1, 0, 1);
        mendedIs("one again ahead of another", laid("o0,0,0,0;n0,2,1,2;o1,0,0,0;g1,9;o2,0,0,0;g2,9;"), 1, 0, 1, 1);
        mendedIs("the first, then the second", laid("o1,0,0,0;g1,9;o2,0,0,0;g2,9;o0,0,0,0;n0,2,1,2;"), 1, 0, 1, 3);
        mendedIs("the fewest ahead of the lowest",
            laid("o1,0,0,0;g1,9;g1,8;o2,0,0,0;g2,9;o0,0,0,0;n0,1,1,2;"), 1, 0, 4);
    }

    static void promise20_theFewestThoughOtherNeedsHold() {
        for (String holding : new String[] {"g1,0;", "a1,2;", "n1,1,2,3;", "h1,2;"}) {
            Counted x = laid("o1,0,0,0;g1,9;g1,8;" + holding + "o0,0,0,0;n0,1,1;");
            x.person(0, 4 + 8, 0);
            x.person(1, 4, 0);
            mendedIs("one ahead of two beside " + holding, x, 1, 0, 5);
        }
    }

    static void promise20_theLongestWay() {
        mendedIs("a chain of twelve", laid(TWELVE + chain(12)), 15, 11);
        mendedIs("a chain of twelve behind a g", laid(TWELVE + "g0,1;" + chain(12)), 15, 11, 12);
        mendedIs("with a g at both ends", laid(TWELVE + "g0,1;g11,1;" + chain(12)), 15, 11, 12, 13);
    }

    static void promise20_theSameItemsServeAllPersons() {
        Counted x = laid("o0,0,0,0;g0,10;g0,20;g0,30;g0,40;");
        x.person(0, 0, 30);
        x.person(1, 0, 20);
        x.person(2, 0, 10);
        mendedIs("one", x, 1, 0, 4);
        mendedIs("two", x, 3, 0, 3, 4);
        mendedIs("three", x, 7, 0, 2, 3, 4);
        notMended("four", x, 15, 0);
    }

    static void promise20_byItselfOthersAsAtFirst() {
        Counted x = laid("o0,0,0,0;o1,0,0,0;h1,0;");
        due("reached together", x.round(0, 1), 2);
        mendedIs("not by itself", x, 1, 1, 2);
        x.person(1, 1, 0);
        mendedIs("another has it at first", x, 1, 1);
        mendedIs("who has it itself", x, 2, 1, 2);
    }

    static void promise20_noOfficeIsNone() {
        Counted x = laid("o0,0,0,0;a0,1,2;");
        notMended("no office", x, 1, 1);
        x.person(0, 2, 0);
        mendedIs("it is had", x, 1, 1);
        notMended("one of them has it, the other not", x, 3, 1);
    }

    static void promise20_theRulesStayAsTheyWere() {
        Counted x = laid("o0,0,0,0;n0,2,1,2;g0,9;");
        mendedIs("three", x, 1, 0, 1, 1, 2);
        due("lack", x.lack(0, 0, 0), 2 + 4);
        due("reach", x.reach(0), 0);
        mendedIs("again", x, 1, 0, 1, 1, 2);
    }

    // ---- promise 21: queue

    private static void queueIs(String told, Counted x, int persons, int... days) {
        for (int person = 0; person < days.length; person++) {
            due(told + ", person " + person, x.queue(persons, person), days[person]);
        }
    }

    static void promise21_aSetOfPersonsIs1To15() {
        edges("persons", 1, 15, n -> new Counted().queue(n, 0));
    }

    static void promise21_aPersonIs0To3() {
        edges("person", 0, 3, n -> new Counted().queue(15, n));
    }

    static void promise21_aPersonIsOfTheSet() {
        for (int persons = 1; persons <= 15; persons++) {
            Counted x = new Counted();
            for (int person = 0; person <= 3; person++) {
                due("queue(" + persons + ", " + person + ")", x.queue(persons, person), (persons >> person & 1) == 1 ? 0 : BAD);
            }
        }
    }

    static void promise21_badComesAheadOfNone() {
        Counted x = new Counted();
        for (int person = 0; person <= 3; person++) {
            planned(x, person, 5);
        }
        queueIs("no office", x, 15, NONE, NONE, NONE, NONE);
        due("not of the set", x.queue(14, 0), BAD);
        due("persons above", x.queue(16, 0), BAD);
        due("persons below", x.queue(0, 0), BAD);
        due("person above", x.queue(15, 4), BAD);
        due("person below", x.queue(15, -1), BAD);
    }

    static void promise21_anEmptyPlanIsDoneOnDay0() {
        Counted x = laid("o0,0,5,0;");
        planned(x, 0, 0);
        queueIs("0 with, 1 without", x, 3, 5, 0);
    }

    static void promise21_anOfficeTakesCADay() {
        int[][] want = {{0, 1, 2, 3}, {0, 0, 1, 1}, {0, 0, 0, 1}, {0, 0, 0, 0}};
        for (int c = 1; c <= 4; c++) {
            Counted x = laid("o0,0,0,0;c0," + c + ";");
            for (int person = 0; person <= 3; person++) {
                planned(x, person, 0);
            }
            queueIs("C = " + c, x, 15, want[c - 1]);
        }
    }

    static void promise21_without1ADay() {
        Counted x = laid("o0,0,0,0;");
        planned(x, 0, 0);
        planned(x, 3, 0);
        due("the first", x.queue(9, 0), 0);
        due("the next day", x.queue(9, 3), 1);
    }

    static void promise21_nineADayAreTheMost() {
        Counted x = laid("o0,0,0,0;c0,9;");
        planned(x, 0, 0, 0, 0, 0, 0, 0, 0, 0, 0);
        planned(x, 1, 0);
        queueIs("nine", x, 3, 0, 1);
        x.plan(0, 0);
        queueIs("ten", x, 3, 1, 1);
        planned(x, 0, 0, 0, 0, 0, 0, 0, 0, 0);
        queueIs("eight", x, 3, 0, 0);
    }

    static void promise21_eachDayItTakesAsManyAgain() {
        Counted x = laid("o0,0,0,0;");
        planned(x, 0, 0, 0, 0, 0, 0, 0, 0, 0, 0, 0, 0, 0);
        queueIs("twelve, one a day", x, 1, 11);
    }

    static void promise21_officesCountEachForItself() {
        Counted x = laid("o0,0,0,0;o1,0,0,0;");
        planned(x, 0, 0);
        planned(x, 1, 1);
        planned(x, 2, 0, 1);
        queueIs("0 and 1 are taken", x, 7, 0, 0, 1);
    }

    static void promise21_byNumbers() {
        Counted x = laid("o0,0,3,0;");
        for (int person = 0; person <= 3; person++) {
            planned(x, person, 0);
        }
        queueIs("one behind the other", x, 15, 3, 4, 5, 6);
        due("the first two do not come", x.queue(12, 2), 3);
        due("the first two do not come", x.queue(12, 3), 4);
    }

    static void promise21_daysAreWaitedFor() {
        Counted x = laid("o0,0,0,0;o1,0,1,0;o2,0,99,0;o3,0,0,0;a3,0,1,2;");
        planned(x, 0, 0, 1, 2, 3);
        queueIs("0 and 1 and 99 and 0", x, 1, 100);
        planned(x, 0, 0, 3);
        queueIs("what it has not is not had", x, 1, NONE);
    }

    static void promise21_whatComesTodayServesToday() {
        Counted x = laid("o0,0,2,0;o1,0,0,0;a1,0;o2,0,0,0;a2,1;");
        planned(x, 0, 0, 1, 2);
        queueIs("on day 2", x, 1, 2);
    }

    static void promise21_day999IsTheLast() {
        Counted x = laid("o0,0,99,0;o1,0,9,0;o2,0,10,0;o3,0,0,0;");
        planned(x, 0, 0, 0, 0, 0, 0, 0, 0, 0, 0, 0, 1);
        queueIs("DAY 999", x, 1, 999);
        x.plan(0, 3);
        queueIs("still DAY 999", x, 1, 999);
        planned(x, 0, 0, 0, 0, 0, 0, 0, 0, 0, 0, 0, 2);
        queueIs("DAY 1000", x, 1, NONE);
        planned(x, 0, 0, 0, 0, 0, 0, 0, 0, 0, 0, 0, 0, 0);
        queueIs("DAY 1188", x, 1, NONE);
    }

    static void promise21_waitingForACounterMayPassDay999() {
        Counted x = laid("o0,0,99,0;o1,0,9,0;o2,0,0,0;");
        planned(x, 0, 0, 0, 0, 0, 0, 0, 0, 0, 0, 0, 1, 2);
        planned(x, 1, 0, 0, 0, 0, 0, 0, 0, 0, 0, 0, 1);
        queueIs("one day behind", x, 3, 999, NONE);
        due("alone", x.queue(2, 1), 999);
    }

    static void promise21_aNeedThatLacksIsForGood() {
        Counted x = laid("o0,0,0,0;g0,18;o1,0,0,0;");
        x.person(0, 0, 17);
        planned(x, 0, 1, 0);
        planned(x, 1, 1);
        queueIs("too young, the other goes on", x, 3, NONE, 1);
        x.person(0, 0, 18);
        queueIs("just old enough", x, 3, 0, 1);
    }

    static void promise21_whoIsRefusedIsNotTaken() {
        Counted x = laid("o0,0,0,0;g0,18;");
        x.person(1, 0, 18);
        planned(x, 0, 0);
        planned(x, 1, 0);
        queueIs("the counter is free for the next", x, 3, NONE, 0);
    }

    static void promise21_othersHaveWhatTheyHaveAtFirst() {
        Counted x = laid("o0,0,0,0;o1,0,0,0;h1,0;");
        planned(x, 0, 0);
        planned(x, 1, 1);
        queueIs("got today is not had at first", x, 3, 0, NONE);
        x.person(3, 1, 0);
        queueIs("one has it that is not of the set", x, 3, 0, 0);
    }

    static void promise21_nothingLapses() {
        Counted x = laid("o0,0,0,1;o1,0,50,0;o2,0,0,0;a2,0;");
        planned(x, 0, 0, 1, 2);
        due("judged it lapses", x.judge(0, 0), 2);
        queueIs("in queues it does not", x, 1, 50);
    }

    // ---- promise 22: keep

    static void promise22_twoAreTheMost() {
        Counted x = new Counted();
        due("none", x.count(4), 0);
        due("the first", x.keep(), 1);
        due("the second", x.keep(), 2);
        due("a third", x.keep(), FULL);
        due("a third", x.keep(), FULL);
        due("count(4)", x.count(4), 2);
        x.restore();
        due("room again", x.keep(), 2);
    }

    static void promise22_fullKeepsNothing() {
        Counted x = new Counted();
        x.person(0, 1, 0);
        x.keep();
        x.person(0, 2, 0);
        x.keep();
        x.person(0, 4, 0);
        due("full", x.keep(), FULL);
        due("what is now stays", x.reach(0), 4);
        due("restore()", x.restore(), 1);
        due("the second", x.reach(0), 2);
        due("restore()", x.restore(), 0);
        due("the first", x.reach(0), 1);
    }

    static void promise22_whatIsKeptDoesNotChange() {
        Counted x = laid("o0,5,5,5;g0,10;");
        x.person(3, 9, 10);
        planned(x, 3, 0);
        x.keep();
        x.layOther("o0,1,1,1;g0,99;c0,3;");
        x.person(3, 0, 9);
        planned(x, 3, 7, 7);
        x.restore();
        int[] want = {5, 5, 5, 1, 1};
        for (int what = 0; what <= 4; what++) {
            due("office(0, " + what + ")", x.office(0, what), want[what]);
        }
        due("AGE, PLAN", x.judge(3, 2), 5);
        due("count(0)", x.count(0), 2);
        due("count(3)", x.count(3), 1);
        due("set", x.person(3, 0, 0), 9);
    }

    // ---- promise 23: restore

    static void promise23_noneKeptIsNo() {
        Counted x = laid("o0,5,0,0;");
        x.person(0, 6, 0);
        due("restore()", x.restore(), NO);
        due("what is now stays", x.reach(0), 7);
        due("what is laid stays", x.office(0, 0), 5);
        due("count(4)", x.count(4), 0);
        x.keep();
        due("one", x.restore(), 0);
        due("none again", x.restore(), NO);
    }

    static void promise23_theLastOneFirst() {
        Counted x = new Counted();
        x.keep();
        x.person(1, 8, 0);
        x.keep();
        x.person(1, 16, 0);
        due("one is left", x.restore(), 1);
        due("the last one", x.reach(1), 8);
        due("none is left", x.restore(), 0);
        due("the first one", x.reach(1), 0);
    }

    static void promise23_whatIsRestoredIsLookedAtAnew() {
        Counted x = laid("o0,1,0,0;g0,10;");
        x.person(0, 0, 10);
        x.keep();
        x.layOther("o0,1,0,0;a0,0;");
        x.person(0, 0, 9);
        due("a RING", x.ring(0, -1), 1);
        due("CHEAPEST", x.cheapest(0, 0, 0), NONE);
        x.restore();
        due("no RING", x.ring(0, -1), NONE);
        due("CHEAPEST", x.cheapest(0, 0, 0), 1);
        due("SOONEST", x.soonest(0, 0), 0);
        x.person(0, 0, 9);
        due("a year younger", x.cheapest(0, 0, 0), NONE);
    }

    static void promise23_theTextIsNotKept() {
        Counted x = new Counted();
        x.writeAll("o0,1,1,1;");
        x.lay();
        x.keep();
        x.layOther("o1,1,1,1;o2,1,1,1;");
        x.restore();
        due("LAID", x.count(1), 1);
        due("THE TEXT", x.count(2), 18);
        due("lay()", x.lay(), 2);
    }

    static void promise23_whatWasRestoredMayBeKeptAgain() {
        Counted x = new Counted();
        x.person(2, 4, 0);
        x.keep();
        x.restore();
        x.person(2, 32, 0);
        due("keep()", x.keep(), 1);
        x.person(2, 64, 0);
        x.restore();
        due("the newer one", x.reach(2), 32);
    }

    // ---- promise 24: count

    static void promise24_whatIs0To4() {
        edges("what", 0, 4, n -> new Counted().count(n));
    }

    static void promise24_theMostOfEach() {
        Counted x = new Counted();
        x.writeAll("o0,0,0,0;" + "g0,1;".repeat(57) + "g0,12;");
        x.lay();
        for (int i = 0; i < 12; i++) {
            for (int person = 0; person <= 3; person++) {
                x.plan(person, 0);
            }
        }
        x.keep();
        x.keep();
        int[] want = {59, 1, 300, 48, 2};
        for (int what = 0; what <= 4; what++) {
            due("count(" + what + ")", x.count(what), want[what]);
        }
        x.layOther(TWELVE);
        due("twelve offices", x.count(1), 12);
        due("twelve ITEMS", x.count(0), 12);
    }

    static void promise24_itemsAndOfficesAreTheLaidOnes() {
        Counted x = laid("o0,0,0,0;c0,1;");
        x.wipe();
        x.writeAll("o1,0,0,0;o2,0,0,0;o3,0,0,0;");
        due("ITEMS", x.count(0), 2);
        due("OFFICES", x.count(1), 1);
        due("bytes", x.count(2), 27);
        x.lay();
        due("ITEMS", x.count(0), 3);
        due("OFFICES", x.count(1), 3);
    }

    public static void main(String[] args) throws Exception {
        runAll(PlansEdgesTest.class, 15, 24);
    }
}
