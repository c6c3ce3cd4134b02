/** Promises 10 to 14: each sentence that names an edge, with the last value that is taken and the first that is not. */
public final class ReachedEdgesTest extends Checks {
    private static final String TWELVE = offices(12, "0,0,0");

    // ---- promise 10: reach

    static void promise10_aPersonIs0To3() {
        edges("person", 0, 3, n -> new Counted().reach(n));
    }

    static void promise10_noneAndAll() {
        Counted x = new Counted();
        due("nothing had, no office", x.reach(0), 0);
        x.person(0, ALL, 0);
        due("all had", x.reach(0), ALL);
        due("another", x.reach(1), 0);
        x.person(0, 0, 0);
        x.layOther(TWELVE);
        for (int person = 0; person <= 3; person++) {
            due("twelve offices without NEEDS", x.reach(person), ALL);
        }
    }

    static void promise10_whatIsHadStaysThoughItMayNotBeHad() {
        Counted x = laid("o0,0,0,0;g0,120;");
        x.person(0, 1 + 2048, 0);
        due("had at first", x.reach(0), 2049);
    }

    static void promise10_aNeedThatJustHoldsAndOneThatJustLacks() {
        Counted x = laid("o0,0,0,0;g0,18;o1,0,0,0;n1,2,0,2,3;");
        x.person(0, 4, 17);
        due("too young", x.reach(0), 4);
        x.person(0, 4, 18);
        due("just old enough", x.reach(0), 7);
        x.person(0, 0, 18);
        due("one of two lacks", x.reach(0), 1);
    }

    static void promise10_itGoesOnTillNothingComes() {
        Counted x = laid(TWELVE + chain(12));
        due("a chain of twelve", x.reach(3), ALL);
        Counted shut = laid(TWELVE + chain(12) + "g11,1;");
        due("all but the last", shut.reach(0), ALL & ~2048);
        Counted first = laid(TWELVE + chain(12) + "g0,1;");
        due("none at all", first.reach(0), 0);
    }

    static void promise10_severalLendOneAnother() {
        Counted x = laid("o0,0,0,0;g0,9;o1,0,0,0;h1,0;o2,0,0,0;h2,1;");
        x.person(3, 0, 9);
        due("the old one gets 0, and 2 by what it lent", x.reach(3), 1 + 4);
        due("others get 1, and 2 from one another", x.reach(0), 2 + 4);
        x.person(3, 0, 8);
        due("nobody is old enough", x.reach(0) + x.reach(3), 0);
    }

    static void promise10_oneIsNoOtherToItself() {
        Counted x = laid("o0,0,0,0;h0,1;");
        x.person(2, 2, 0);
        due("it has 1 itself", x.reach(2), 2);
        due("another", x.reach(1), 1);
    }

    static void promise10_askingGivesNothingInTruth() {
        Counted x = laid(TWELVE);
        x.reach(0);
        due("what it has at first", x.person(0, 0, 0), 0);
    }

    // ---- promise 11: round

    static void promise11_aPersonIs0To3() {
        edges("person", 0, 3, n -> laid(TWELVE).round(n, 0));
    }

    static void promise11_aPaperIs0To11() {
        edges("paper", 0, 11, n -> laid(TWELVE).round(0, n));
    }

    static void promise11_badComesAheadOfNone() {
        Counted x = new Counted();
        due("none", x.round(0, 0), NONE);
        due("person", x.round(4, 0), BAD);
        due("person", x.round(-1, 0), BAD);
        due("paper", x.round(0, 12), BAD);
        due("paper", x.round(0, -1), BAD);
    }

    static void promise11_hadAtFirstIs0() {
        Counted x = laid("o0,0,0,0;o1,0,0,0;g1,120;");
        x.person(0, 1 + 2 + 2048, 0);
        due("though it MAY HAVE it", x.round(0, 0), 0);
        due("though it may not have it", x.round(0, 1), 0);
        due("though there is no office", x.round(0, 11), 0);
        due("another", x.round(1, 0), 1);
    }

    static void promise11_theFirstRoundIs1() {
        Counted x = laid("o0,0,0,0;o11,0,0,0;a11,5;");
        x.person(0, 32, 0);
        due("without NEEDS", x.round(0, 0), 1);
        due("by what is had at first", x.round(0, 11), 1);
    }

    static void promise11_aRoundGoesByWhatAllHadAheadOfIt() {
        Counted x = laid("o0,0,0,0;o1,0,0,0;a1,0;o2,0,0,0;h2,0;o3,0,0,0;h3,2;");
        for (int person = 0; person <= 3; person++) {
            due("0 of " + person, x.round(person, 0), 1);
            due("1 is not got in the same round", x.round(person, 1), 2);
            due("2 is not lent in the same round, not even by lower persons", x.round(person, 2), 2);
            due("3 of " + person, x.round(person, 3), 3);
        }
    }

    static void promise11_upwardsAndDownwardsAreAlike() {
        Counted up = laid(TWELVE + chain(12));
        Counted down = laid(TWELVE + "a10,11;a9,10;a8,9;a7,8;a6,7;a5,6;a4,5;a3,4;a2,3;a1,2;a0,1;");
        for (int paper = 0; paper <= 11; paper++) {
            due("up " + paper, up.round(0, paper), paper + 1);
            due("down " + paper, down.round(0, paper), 12 - paper);
        }
    }

    static void promise11_thereAreMoreThanTwelveRounds() {
        Counted x = laid(TWELVE + chain(12) + "h0,11;");
        x.person(2, 1, 0);
        due("the first way", x.round(2, 11), 11);
        due("then the others begin", x.round(0, 0), 12);
        due("their last one", x.round(0, 11), 23);
        due("their last one", x.round(3, 11), 23);
    }

    static void promise11_neverIsNone() {
        Counted x = laid("o0,0,0,0;g0,1;o1,0,0,0;a1,1;");
        due("too young", x.round(0, 0), NONE);
        due("needs itself", x.round(0, 1), NONE);
        due("no office", x.round(0, 2), NONE);
        x.person(1, 7, 0);
        due("had by another alone", x.round(0, 2), NONE);
    }

    // ---- promise 12: ring

    private static void ringIs(String told, Counted x, int person, int... papers) {
        due(told + ", how many", x.ring(person, -1), papers.length);
        for (int i = 0; i < papers.length; i++) {
            due(told + ", the " + i + "-th", x.ring(person, i), papers[i]);
        }
        due(told + ", one more", x.ring(person, papers.length), NONE);
    }

    private static void noRing(String told, Counted x, int person) {
        due(told + ", how many", x.ring(person, -1), NONE);
        due(told + ", the first", x.ring(person, 0), NONE);
    }

    static void promise12_aPersonIs0To3() {
        edges("person", 0, 3, n -> laid("o0,0,0,0;a0,0;").ring(n, 0));
    }

    static void promise12_iIsMinus1Or0OrMore() {
        Counted x = laid("o0,0,0,0;o1,0,0,0;a0,1;a1,0;");
        due("-2", x.ring(0, -2), BAD);
        due("-3", x.ring(0, -3), BAD);
        due("the lowest int", x.ring(0, Integer.MIN_VALUE), BAD);
        due("-1", x.ring(0, -1), 2);
        due("0", x.ring(0, 0), 0);
        due("1", x.ring(0, 1), 1);
        due("2", x.ring(0, 2), NONE);
        due("11", x.ring(0, 11), NONE);
    }

    static void promise12_badComesAheadOfNone() {
        Counted x = new Counted();
        noRing("no office", x, 0);
        due("i", x.ring(0, -2), BAD);
        due("person", x.ring(4, 0), BAD);
        due("person", x.ring(-1, -1), BAD);
    }

    static void promise12_oneMayBeARingByItself() {
        ringIs("by a", laid("o0,0,0,0;a0,0;"), 0, 0);
        ringIs("by n", laid("o11,0,0,0;n11,1,11,10;"), 3, 11);
        ringIs("one is fewer than two", laid("o0,0,0,0;o1,0,0,0;o5,0,0,0;a0,1;a1,0;a5,5;"), 0, 5);
    }

    static void promise12_twelveMayBeARing() {
        ringIs("upwards", laid(TWELVE + "a0,1;a1,2;a2,3;a3,4;a4,5;a5,6;a6,7;a7,8;a8,9;a9,10;a10,11;a11,0;"), 0,
            0, 1, 2, 3, 4, 5, 6, 7, 8, 9, 10, 11);
        ringIs("downwards", laid(TWELVE + chain(12) + "a0,11;"), 0, 0, 11, 10, 9, 8, 7, 6, 5, 4, 3, 2, 1);
    }

    static void promise12_aChainWithAnEndIsNone() {
        noRing("reached", laid(TWELVE + chain(12)), 0);
        noRing("never reached", laid(TWELVE + chain(12) + "g0,1;"), 0);
        noRing("its end has no office", laid("o0,0,0,0;a0,1;"), 0);
    }

    static void promise12_whoIsInHasNone() {
        Counted x = laid("o0,0,0,0;o1,0,0,0;a0,1;a1,0;");
        x.person(0, 2, 0);
        noRing("all reached", x, 0);
        ringIs("another", x, 1, 0, 1);
    }

    static void promise12_ofSeveralTheLowestFirstPaper() {
        Counted x = laid("o2,0,0,0;o3,0,0,0;o1,0,0,0;o7,0,0,0;a2,3;a3,2;a1,7;a7,1;");
        ringIs("1 and 7 ahead of 2 and 3", x, 0, 1, 7);
    }

    static void promise12_thenTheLowestSecond() {
        ringIs("by one NEED", laid("o0,0,0,0;o2,0,0,0;o3,0,0,0;a0,3,2;a2,0;a3,0;"), 0, 0, 2);
        ringIs("by two NEEDS", laid("o0,0,0,0;o2,0,0,0;o3,0,0,0;a0,3;a0,2;a2,0;a3,0;"), 0, 0, 2);
    }

    static void promise12_thenTheLowestThird() {
        ringIs("0 1 4 and 0 1 5", laid("o0,0,0,0;o1,0,0,0;o4,0,0,0;o5,0,0,0;a0,1;a1,5,4;a4,0;a5,0;"), 0, 0, 1, 4);
        ringIs("a lower second that does not come back is none",
            laid("o0,0,0,0;o1,0,0,0;o2,0,0,0;o3,0,0,0;a0,1,2;a1,4;a2,3;a3,0;o4,0,0,0;g4,1;"), 0, 0, 2, 3);
    }

    static void promise12_theFewestAheadOfTheLowest() {
        ringIs("two ahead of three", laid("o0,0,0,0;o1,0,0,0;o2,0,0,0;a0,1;a1,2;a2,0;o8,0,0,0;o9,0,0,0;a8,9;a9,8;"), 0, 8, 9);
    }

    static void promise12_onlyNeedsAAndN() {
        noRing("h", laid("o0,0,0,0;o1,0,0,0;h0,1;a1,0;"), 0);
        noRing("h of itself", laid("o0,0,0,0;h0,0;"), 0);
        ringIs("n", laid("o0,0,0,0;o1,0,0,0;n0,1,1;n1,1,0;"), 0, 0, 1);
    }

    static void promise12_aNeedThatHoldsTiesNothing() {
        Counted x = laid("o0,0,0,0;n0,1,1,2;g0,1;o1,0,0,0;a1,0;o2,0,0,0;");
        noRing("2 is reached, and n holds by it", x, 0);
        Counted two = laid("o0,0,0,0;n0,2,1,2;o1,0,0,0;a1,0;o2,0,0,0;");
        ringIs("one more is needed", two, 0, 0, 1);
    }

    static void promise12_nothingIsLeftOfTheLastText() {
        Counted x = laid("o0,0,0,0;g0,1;a0,0;");
        ringIs("0 by itself", x, 0, 0);
        due("lay()", x.layOther("o0,0,0,0;g0,1;"), 2);
        noRing("its a is gone", x, 0);
    }

    static void promise12_whatIsReachedIsInNoRing() {
        ringIs("0 is reached", laid("o0,0,0,0;o1,0,0,0;o2,0,0,0;a1,0,2;a2,0,1;"), 0, 1, 2);
    }

    // ---- promise 13: back

    static void promise13_aPersonIs0To3() {
        edges("person", 0, 3, n -> new Counted().back(n));
    }

    static void promise13_noneAndAll() {
        Counted x = new Counted();
        due("nothing reached", x.back(0), 0);
        x.person(3, ALL, 0);
        due("no office gives any again", x.back(3), ALL);
        x.layOther(TWELVE);
        due("offices give all again", x.back(3), 0);
        due("what was never had at first comes again too", x.back(0), 0);
    }

    static void promise13_onlyWhatIsReached() {
        Counted x = laid("o0,0,0,0;g0,1;");
        due("what is never reached is not told", x.back(0), 0);
        x.person(0, 1, 0);
        due("it is, if it is had", x.back(0), 1);
        x.person(0, 1, 1);
        due("just old enough", x.back(0), 0);
    }

    static void promise13_itHasAllButThisOne() {
        Counted x = laid("o0,0,0,0;a0,1;o1,0,0,0;a1,0;o2,0,0,0;a2,2;");
        x.person(0, 1 + 4, 0);
        due("0 and 1 give one another, 2 needs itself", x.back(0), 4);
        Counted n = laid("o0,0,0,0;n0,2,0,1,2;");
        n.person(0, 7, 0);
        due("two of the others are enough", n.back(0), 2 + 4);
        n.person(0, 3, 0);
        due("one of the others is not", n.back(0), 3);
    }

    static void promise13_paperElevenToo() {
        Counted x = laid("o11,0,0,0;a11,0;");
        x.person(0, 1 + 2048, 0);
        due("11 comes by 0", x.back(0), 1);
        x.person(0, 2048, 0);
        due("nothing gives 11", x.back(0), 2048);
    }

    static void promise13_othersBeginAsTheyAreAtFirst() {
        Counted x = laid("o0,0,0,0;h0,1;o1,0,0,0;h1,0;g1,5;");
        x.person(0, 1, 4);
        x.person(1, 0, 5);
        due("1 came to the other by what is gone", x.back(0), 1);
        x.person(1, 2, 5);
        due("the other has 1 at first", x.back(0), 0);
    }

    static void promise13_othersGetPapersToo() {
        Counted x = laid("o0,0,0,0;h0,1;o1,0,0,0;h1,2;");
        x.person(0, 1 + 4, 0);
        due("the other gets 1 by the 2 that is lent", x.back(0), 4);
    }

    /** One goes up all papers but the last, lends, and all others must go up behind it before they lend in turn. */
    private static final String FORTH_AND_BACK = TWELVE + chain(11) + "h0,10;h11,10;";

    static void promise13_aLongWayForthAndBack() {
        Counted x = laid(FORTH_AND_BACK);
        x.person(0, 1, 0);
        due("11 comes last", x.round(0, 11), 22);
        due("each comes again", x.back(0), 0);
    }

    // ---- promise 14: opened

    private static void openedIs(String told, Counted x, int person, int paper, int least, int rivals) {
        due(told + ", the set", x.opened(person, paper, 0), least);
        due(told + ", how many papers", x.opened(person, paper, 1), Integer.bitCount(least));
        due(told + ", how many sets", x.opened(person, paper, 2), rivals);
    }

    private static void shut(String told, Counted x, int person, int paper) {
        for (int what = 0; what <= 2; what++) {
            due(told + ", what = " + what, x.opened(person, paper, what), NONE);
        }
    }

    static void promise14_aPersonIs0To3() {
        edges("person", 0, 3, n -> laid(TWELVE).opened(n, 0, 0));
    }

    static void promise14_aPaperIs0To11() {
        edges("paper", 0, 11, n -> laid(TWELVE).opened(0, n, 0));
    }

    static void promise14_whatIs0To2() {
        edges("what", 0, 2, n -> laid(TWELVE).opened(0, 0, n));
    }

    static void promise14_badComesAheadOfNone() {
        Counted x = new Counted();
        shut("no office", x, 0, 0);
        due("what below", x.opened(0, 0, -1), BAD);
        due("what above", x.opened(0, 0, 3), BAD);
        due("person", x.opened(4, 0, 0), BAD);
        due("person", x.opened(-1, 0, 0), BAD);
        due("paper", x.opened(0, 12, 0), BAD);
        due("paper", x.opened(0, -1, 0), BAD);
    }

    static void promise14_whatIsReachedIsOpenedByTheEmptySet() {
        Counted x = laid("o0,0,0,0;o1,0,0,0;g1,120;");
        openedIs("reached", x, 0, 0, 0, 1);
        x.person(0, 2 + 2048, 0);
        openedIs("had, though it may not have it", x, 0, 1, 0, 1);
        openedIs("had, without office", x, 0, 11, 0, 1);
    }

    static void promise14_elevenPapersAreTheMost() {
        openedIs("all others", laid("o0,0,0,0;a0,1,2,3,4,5,6;a0,7,8,9,10,11;"), 0, 0, ALL & ~1, 1);
        openedIs("all others", laid("o11,0,0,0;a11,0,1,2,3,4,5;a11,6,7,8,9,10;"), 0, 11, ALL & ~2048, 1);
    }

    static void promise14_notThatPaperItself() {
        shut("a of itself", laid("o0,0,0,0;a0,0;"), 0, 0);
        openedIs("n of itself or another", laid("o0,0,0,0;n0,1,0,11;"), 0, 0, 2048, 1);
        shut("without office", laid("o1,0,0,0;a1,0;"), 0, 0);
    }

    static void promise14_noPaperMakesOlder() {
        Counted x = laid("o0,0,0,0;g0,18;a0,1;");
        x.person(0, 0, 17);
        shut("too young", x, 0, 0);
        x.person(0, 0, 18);
        openedIs("just old enough", x, 0, 0, 2, 1);
    }

    static void promise14_theFewestAheadOfTheLeastBits() {
        openedIs("3 or 11 alone ahead of 1 and 2", laid("o0,0,0,0;n0,1,3,11;o3,0,0,0;a3,1,2;"), 0, 0, 8, 2);
        openedIs("4 alone ahead of 0 and 1", laid("o5,0,0,0;n5,2,0,1,3;o3,0,0,0;a3,4;o0,0,0,0;a0,4;"), 0, 5, 16, 1);
    }

    static void promise14_ofSeveralTheLeastBits() {
        openedIs("one of six", laid("o0,0,0,0;n0,1,11,9,7,5,3,2;"), 0, 0, 4, 6);
        openedIs("three of six", laid("o11,0,0,0;n11,3,10,8,6,4,2,0;"), 0, 11, 1 + 4 + 16, 20);
    }

    static void promise14_allRivalsAreCounted() {
        openedIs("three of six and two of five", laid("o0,0,0,0;n0,3,1,2,3,4,5,6;n0,2,7,8,9,10,11;"), 0, 0,
            2 + 4 + 8 + 128 + 256, 200);
        openedIs("one alone", laid("o0,0,0,0;a0,1;"), 0, 0, 2, 1);
        openedIs("itself or what gives it", laid(TWELVE + chain(12) + "g0,1;"), 0, 11, 1, 11);
    }

    /** The set, how many papers and how many sets by trying all, where paper 0 needs three of each of these. */
    private static int[] triedOut(int... masks) {
        int[] found = {0, 99, 0};
        for (int gift = 0; gift <= ALL; gift += 2) {
            boolean opens = true;
            for (int mask : masks) {
                opens &= Integer.bitCount(gift & mask) >= 3;
            }
            int many = Integer.bitCount(gift);
            if (opens && many < found[1]) {
                found = new int[] {gift, many, 0};
            }
            if (opens && many == found[1]) {
                found[2]++;
            }
        }
        return found;
    }

    private static int setOf(int... papers) {
        int set = 0;
        for (int paper : papers) {
            set |= 1 << paper;
        }
        return set;
    }

    static void promise14_manyNeedsThatCross() {
        Counted x = laid("o0,0,0,0;n0,3,1,2,3,4,5,6;n0,3,4,5,6,7,8,9;n0,3,6,7,8,9,10,11;n0,3,1,2,7,8,10,11;n0,3,1,3,5,7,9,11;"
            + "n0,3,2,4,6,8,10,11;n0,3,1,4,5,8,9,10;n0,3,2,3,6,7,10,11;");
        int[] want = triedOut(setOf(1, 2, 3, 4, 5, 6), setOf(4, 5, 6, 7, 8, 9), setOf(6, 7, 8, 9, 10, 11),
            setOf(1, 2, 7, 8, 10, 11), setOf(1, 3, 5, 7, 9, 11), setOf(2, 4, 6, 8, 10, 11), setOf(1, 4, 5, 8, 9, 10),
            setOf(2, 3, 6, 7, 10, 11));
        openedIs("eight NEEDS", x, 0, 0, want[0], want[2]);
    }

    static void promise14_besidesWhatItHas() {
        Counted x = laid("o0,0,0,0;n0,3,1,2,3,4;");
        openedIs("three of four", x, 0, 0, 2 + 4 + 8, 4);
        x.person(0, 2, 0);
        openedIs("two more", x, 0, 0, 4 + 8, 3);
        x.person(0, 2 + 4, 0);
        openedIs("one more", x, 0, 0, 8, 2);
        x.person(0, 2 + 4 + 8, 0);
        openedIs("none more", x, 0, 0, 0, 1);
    }

    static void promise14_othersGetPapersToo() {
        openedIs("given to lend", laid("o0,0,0,0;h0,1;o1,0,0,0;h1,2;"), 0, 0, 4, 1);
        shut("what is given to it is no other's", laid("o0,0,0,0;h0,1;"), 0, 0);
    }

    static void promise14_aLongWayForthAndBack() {
        openedIs("by any of the others", laid(FORTH_AND_BACK), 0, 11, 1, 11);
    }

    static void promise14_eachQuestionStandsByItself() {
        Counted x = laid("o0,0,0,0;a0,1,2;o3,0,0,0;a3,1;");
        openedIs("two", x, 0, 0, 2 + 4, 1);
        openedIs("one", x, 0, 3, 2, 1);
        openedIs("two again", x, 0, 0, 2 + 4, 1);
        x.person(1, 1 + 2 + 4, 0);
        openedIs("another has both", x, 1, 0, 0, 1);
        openedIs("this one has not", x, 0, 0, 2 + 4, 1);
    }

    static void promise14_nothingIsGivenInTruth() {
        Counted x = laid("o0,0,0,0;a0,1;");
        openedIs("by 1", x, 0, 0, 2, 1);
        due("reach", x.reach(0), 0);
        due("set", x.person(0, 0, 0), 0);
    }

    public static void main(String[] args) throws Exception {
        runAll(ReachedEdgesTest.class, 10, 14);
    }
}
