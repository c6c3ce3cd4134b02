/** Promises 1 to 9: each sentence that names an edge, with the last value that is taken and the first that is not. */
public final class PersonsOfficesEdgesTest extends Checks {
    private static final String HEAD = "o0,1,1,1;";

    // ---- promise 1: a new object

    static void promise01_nothingIsToldInANewObject() {
        Counted x = new Counted();
        for (int what = 0; what <= 4; what++) {
            due("count(" + what + ")", x.count(what), 0);
        }
        due("restore()", x.restore(), NO);
        due("wipe()", x.wipe(), 0);
        for (int person = 0; person <= 3; person++) {
            due("noPlan(" + person + ")", x.noPlan(person), 0);
        }
    }

    static void promise01_anEmptyTextIsLaid() {
        Counted x = new Counted();
        for (int paper = 0; paper <= 11; paper++) {
            due("office(" + paper + ", 0)", x.office(paper, 0), NONE);
            due("lack(0, 4095, " + paper + ")", x.lack(0, ALL, paper), NONE);
            due("may(0, 4095, " + paper + ")", x.may(0, ALL, paper), 0);
        }
        due("fault()", x.fault(), NONE);
    }

    static void promise01_eachPersonHasNoneAtFirst() {
        Counted x = new Counted();
        for (int person = 0; person <= 3; person++) {
            due("reach(" + person + ")", x.reach(person), 0);
            due("person(" + person + ", 0, 0)", x.person(person, 0, 0), 0);
        }
    }

    static void promise01_eachPersonHasAge0AtFirst() {
        Counted x = laid("o0,0,0,0;g0,0;o1,0,0,0;g1,1;");
        for (int person = 0; person <= 3; person++) {
            due("AGE 0", x.may(person, 0, 0), 1);
            due("AGE 1", x.may(person, 0, 1), 0);
        }
    }

    static void promise01_oneObjectKnowsNothingOfAnother() {
        Counted x = laid("o0,5,0,0;");
        x.person(0, 7, 9);
        x.plan(0, 0);
        x.keep();
        Counted y = new Counted();
        due("office", y.office(0, 0), NONE);
        due("reach", y.reach(0), 0);
        for (int what = 0; what <= 4; what++) {
            due("count(" + what + ")", y.count(what), 0);
        }
        due("the first one's stays", x.office(0, 0), 5);
    }

    static void promise01_the512thCallStillAnswers() {
        Counted x = new Counted();
        for (int i = 0; i < Counted.MOST_CALLS / 2 - 1; i++) {
            due("write", x.write(8, -1L), 8);
            due("wipe", x.wipe(), 8);
        }
        due("person", x.person(3, ALL, 120), 0);
        due("the 512th call", x.reach(3), ALL);
        due("calls", x.calls(), 512);
    }

    // ---- promise 2: person

    static void promise02_aPersonIs0To3() {
        edges("person", 0, 3, n -> new Counted().person(n, 1, 1));
    }

    static void promise02_aSetIs0To4095() {
        edges("set", 0, ALL, n -> new Counted().person(0, n, 1));
    }

    static void promise02_anAgeIs0To120() {
        edges("age", 0, 120, n -> new Counted().person(0, 1, n));
    }

    static void promise02_theEmptyAndTheFullSetAreToldBack() {
        Counted x = new Counted();
        due("at first", x.person(3, ALL, 0), 0);
        due("all", x.person(3, 2048, 0), ALL);
        due("the last paper alone", x.person(3, 1, 0), 2048);
        due("the first paper alone", x.person(3, 0, 0), 1);
        due("none", x.person(3, 0, 0), 0);
    }

    static void promise02_eachPersonHasItsOwn() {
        Counted x = laid("o11,0,0,0;g11,2;");
        for (int person = 0; person <= 3; person++) {
            x.person(person, 1 << person, person);
        }
        for (int person = 0; person <= 3; person++) {
            due("AGE of " + person, x.may(person, 0, 11), person >= 2 ? 1 : 0);
            due("set of " + person, x.person(person, 0, 0), 1 << person);
        }
    }

    static void promise02_theAgeIsTakenToo() {
        Counted x = laid("o0,0,0,0;g0,120;o1,0,0,0;g1,119;");
        x.person(0, 0, 119);
        due("119 for 120", x.may(0, 0, 0), 0);
        due("119 for 119", x.may(0, 0, 1), 1);
        x.person(0, 0, 120);
        due("120 for 120", x.may(0, 0, 0), 1);
        x.person(0, 0, 0);
        due("0 for 119", x.may(0, 0, 1), 0);
    }

    // ---- promise 3: write

    static void promise03_nIs1To8() {
        edges("n", 1, 8, n -> new Counted().write(n, 0x3b3b3b3b3b3b3b3bL));
    }

    static void promise03_itAnswersHowLongTheTextIs() {
        Counted x = new Counted();
        int length = 0;
        for (int n = 1; n <= 8; n++) {
            length += n;
            due("write " + n, x.write(n, 0), length);
            due("count(2)", x.count(2), length);
        }
    }

    static void promise03_theHighestOfEightBytesComesFirst() {
        Counted x = new Counted();
        x.write(8, 0x6f312c39382c372cL);
        x.write(2, 0x363bL);
        due("lay()", x.lay(), 1);
        due("FEE", x.office(1, 0), 98);
        due("D", x.office(1, 1), 7);
        due("L", x.office(1, 2), 6);
    }

    static void promise03_onlyTheLowestNBytesCount() {
        Counted x = new Counted();
        // "o1,5" and ",4,3;" with other signs above them
        x.write(4, 0x7a7a7a7a6f312c35L);
        x.write(5, 0x7a7a7a2c342c333bL);
        due("lay()", x.lay(), 1);
        due("FEE", x.office(1, 0), 5);
        due("L", x.office(1, 2), 3);
        due("count(2)", x.count(2), 9);
    }

    static void promise03_aNegativeVIsBytesLikeAnother() {
        Counted x = new Counted();
        x.writeAll("o1,5,4,3");
        due("the lowest byte is ;", x.write(1, -256L + ';'), 9);
        due("lay()", x.lay(), 1);
        due("eight bytes of 255", x.write(8, -1L), 17);
        due("fault()", x.fault(), 9);
        due("Long.MIN_VALUE", x.write(8, Long.MIN_VALUE), 25);
        due("Long.MAX_VALUE", x.write(8, Long.MAX_VALUE), 33);
    }

    static void promise03_aByteHasEightBits() {
        Counted x = new Counted();
        x.writeAll("o1,5,4,3");
        x.write(1, ';' + 128);
        due("; with its highest bit set is no ;", x.fault(), 0);
        Counted y = new Counted();
        y.writeAll("o1,5,4,3");
        y.write(1, ';' + 256);
        due("a ninth bit does not count", y.fault(), NONE);
    }

    private static Counted filled(int length) {
        Counted x = new Counted();
        x.writeAll("x".repeat(length));
        return x;
    }

    static void promise03_aTextHas300BytesAtMost() {
        due("1 behind 299", filled(299).write(1, 0), 300);
        due("1 behind 300", filled(300).write(1, 0), FULL);
        due("8 behind 292", filled(292).write(8, 0), 300);
        due("8 behind 293", filled(293).write(8, 0), FULL);
        due("8 behind 300", filled(300).write(8, 0), FULL);
        due("7 behind 293", filled(293).write(7, 0), 300);
        due("2 behind 299", filled(299).write(2, 0), FULL);
    }

    static void promise03_fullWritesNoPartOfTheBytes() {
        Counted x = filled(299);
        due("8 behind 299", x.write(8, 0), FULL);
        due("count(2)", x.count(2), 299);
        due("1 behind 299", x.write(1, 0), 300);
        due("wipe()", x.wipe(), 300);
    }

    static void promise03_badComesAheadOfFull() {
        Counted x = filled(300);
        due("write(0, 0)", x.write(0, 0), BAD);
        due("write(9, 0)", x.write(9, 0), BAD);
        due("count(2)", x.count(2), 300);
    }

    static void promise03_behindAWipeThereIsRoomAgain() {
        Counted x = filled(300);
        x.wipe();
        due("write", x.write(8, 0), 8);
        due("count(2)", x.count(2), 8);
    }

    // ---- promise 4: wipe

    static void promise04_theEmptyAndTheFullTextAreWiped() {
        due("empty", new Counted().wipe(), 0);
        due("one byte", filled(1).wipe(), 1);
        Counted x = filled(300);
        due("full", x.wipe(), 300);
        due("empty again", x.wipe(), 0);
        due("count(2)", x.count(2), 0);
        due("fault()", x.fault(), NONE);
    }

    static void promise04_whatIsLaidStays() {
        Counted x = laid("o3,7,0,0;");
        x.wipe();
        due("FEE", x.office(3, 0), 7);
        due("count(0)", x.count(0), 1);
    }

    static void promise04_wipedBytesDoNotComeBack() {
        Counted x = new Counted();
        x.writeAll("o0,1,1,1;o1,2,2,2;");
        x.wipe();
        x.writeAll("o0,1,1,1");
        due("the old ; ends nothing", x.fault(), 0);
        x.writeAll(";");
        due("lay()", x.lay(), 1);
    }

    // ---- promise 5: fault

    private static int faultOf(String text) {
        Counted x = new Counted();
        x.writeAll(text);
        return x.fault();
    }

    /** Items that are as told behind an office for paper 0. */
    private static void sound(String... items) {
        for (String item : items) {
            due("fault() of " + item, faultOf(HEAD + item), NONE);
        }
    }

    /** Items that are not: as the last one, and with a sound one behind. */
    private static void unsound(String... items) {
        for (String item : items) {
            due("fault() of " + item, faultOf(HEAD + item), 9);
            due("fault() ahead of another: " + item, faultOf(HEAD + item + "o9,9,9,9;"), 9);
        }
    }

    static void promise05_anEmptyTextHasNone() {
        due("fault()", faultOf(""), NONE);
    }

    static void promise05_numbersHaveOneToThreeFigures() {
        sound("o1,1,1,1;", "o01,01,01,01;", "o001,001,001,001;", "g0,007;", "a000,011;", "n00,01,05;", "h0,000;", "c0,009;");
        unsound("o0001,1,1,1;", "o1,0001,1,1;", "o1,1,0001,1;", "o1,1,1,0001;", "g0,0000;", "c0,0001;", "a0,0001;", "n0,0001,1;");
        unsound("o,1,1,1;", "o1,,1,1;", "o1,1,,1;", "o1,1,1,;", "g0,;", "g,1;", "a0,1,,2;", "n0,,1;", "h0,;", "c0,;");
    }

    static void promise05_numbersArePartedByCommasAlone() {
        unsound("o1;1,1,1;", "o1.1,1,1;", "o1 ,1,1,1;", "o1, 1,1,1;", "o1,+1,1,1;", "o1,-1,1,1;", "o 1,1,1,1;", "g0:1;", "a0,1,2,;");
        // The signs beside the figures 0 and 9
        unsound("g0,/;", "g0,:;", "g0,1/;", "g0,1:;");
    }

    static void promise05_anItemEndsWithASemicolon() {
        sound("g0,1;");
        due("no end", faultOf(HEAD + "g0,1"), 9);
        due("a comma at the end", faultOf(HEAD + "g0,1,"), 9);
        due("nothing behind the comma", faultOf(HEAD + "g0,"), 9);
        due("no comma", faultOf(HEAD + "g0"), 9);
        due("a letter alone", faultOf(HEAD + "g"), 9);
        due("an office without end", faultOf("o0,1,1,1"), 0);
        unsound("g0,1:", "g0,1.", "g0,1x;");
    }

    static void promise05_anItemBeginsWithItsLetter() {
        unsound(";", ",", "0,1;", "1", " g0,1;", "gg0,1;", "\n", "\0");
        // The letters beside those that are told
        unsound("`0,1;", "b0,1;", "d0,1;", "f0,1;", "i0,1;", "m0,1,1;", "p1,1,1,1;", "A0,1;", "O1,1,1,1;");
    }

    static void promise05_anOfficeIsForPaper0To11() {
        due("paper 0", faultOf("o0,1,1,1;"), NONE);
        due("paper 11", faultOf("o11,1,1,1;"), NONE);
        due("paper 12", faultOf("o12,1,1,1;"), 0);
        due("paper 999", faultOf("o999,1,1,1;"), 0);
        due("all twelve", faultOf(offices(12, "0,0,0")), NONE);
        due("a thirteenth", faultOf(offices(13, "0,0,0")), offices(12, "0,0,0").length());
    }

    static void promise05_anOfficeHasFourNumbers() {
        unsound("o1;", "o1,1;", "o1,1,1;", "o1,1,1,1,1;", "o1,1,1,1,1,1,1,1;", "o1,1,1,1,1,1,1,1,1;");
    }

    static void promise05_aFeeIs0To999() {
        sound("o1,0,1,1;", "o1,999,1,1;");
        unsound("o1,1000,1,1;");
    }

    static void promise05_daysAre0To99() {
        sound("o1,1,0,1;", "o1,1,99,1;", "o1,1,099,1;");
        unsound("o1,1,100,1;", "o1,1,999,1;", "o1,1,1000,1;");
    }

    static void promise05_itIsGoodFor0To999Days() {
        sound("o1,1,1,0;", "o1,1,1,999;");
        unsound("o1,1,1,1000;");
    }

    static void promise05_anOfficeIsToldOnceEach() {
        sound("o1,1,1,1;o2,1,1,1;");
        unsound("o0,1,1,1;", "o0,2,2,2;", "o00,1,1,1;");
        due("the second one of paper 11", faultOf("o11,1,1,1;o0,1,1,1;o11,1,1,1;"), 19);
    }

    static void promise05_aTellsOneToSixPapers() {
        sound("a0,1;", "a0,1,2,3,4,5,6;", "a0,6,6,6,6,6,6;", "a0,0;");
        unsound("a0;", "a0,1,2,3,4,5,6,7;", "a0,1,1,1,1,1,1,1;", "a0,1,2,3,4,5,6,7,8;", "a0,1,2,3,4,5,6,7,8,9,10,11;");
    }

    static void promise05_aTellsPapers0To11() {
        sound("a0,0;", "a0,11;", "a0,0,11;", "a0,11,0;");
        unsound("a0,12;", "a0,12,1;", "a0,1,12;", "a0,1,2,3,4,5,12;", "a0,999;", "a0,32;");
    }

    static void promise05_nNeedsK1To6() {
        sound("n0,1,1;", "n0,6,1,2,3,4,5,6;");
        unsound("n0,0,1;", "n0,0,1,2,3,4,5,6;", "n0,7,1,2,3,4,5,6;", "n0,7,1,2,3,4,5,6,7;", "n0,999,1;");
    }

    static void promise05_nTellsKOrMoreToSix() {
        sound("n0,1,1;", "n0,1,1,2,3,4,5,6;", "n0,2,1,2;", "n0,5,1,2,3,4,5;", "n0,5,1,2,3,4,5,6;");
        unsound("n0;", "n0,1;", "n0,2,1;", "n0,6,1,2,3,4,5;", "n0,1,1,2,3,4,5,6,7;", "n0,1,1,2,3,4,5,6,7,8;");
    }

    static void promise05_nTellsUnlikeOnes() {
        sound("n0,2,1,2;", "n0,1,0,11;");
        unsound("n0,1,1,1;", "n0,2,1,1;", "n0,1,1,2,1;", "n0,1,2,3,4,5,6,2;", "n0,1,3,03;");
    }

    static void promise05_nTellsPapers0To11() {
        sound("n0,1,0;", "n0,1,11;", "n0,2,0,11;");
        unsound("n0,1,12;", "n0,1,1,12;", "n0,1,12,1;", "n0,2,1,12;", "n0,1,999;", "n0,1,32;");
    }

    static void promise05_gNeedsAge0To120() {
        sound("g0,0;", "g0,120;");
        unsound("g0,121;", "g0,999;");
    }

    static void promise05_hTellsPaper0To11() {
        sound("h0,0;", "h0,11;");
        unsound("h0,12;", "h0,999;", "h0,32;");
    }

    static void promise05_cTakes1To9() {
        sound("c0,1;", "c0,9;");
        unsound("c0,0;", "c0,10;", "c0,999;");
    }

    static void promise05_cIsToldOnceEach() {
        sound("c0,1;o1,1,1,1;c1,1;");
        due("1 and again", faultOf(HEAD + "c0,1;c0,1;"), 14);
        due("9 and another", faultOf(HEAD + "c0,9;c0,1;"), 14);
        due("with others between", faultOf(HEAD + "c0,2;g0,1;a0,1;c0,3;"), 24);
    }

    static void promise05_othersMayBeToldAgain() {
        sound("a0,1;a0,1;", "n0,1,1;n0,1,1;", "g0,1;g0,1;", "h0,1;h0,1;");
    }

    static void promise05_gHAndCHaveTwoNumbers() {
        unsound("g0;", "h0;", "c0;", "g0,1,1;", "h0,1,1;", "c0,1,1;", "g0,1,1,1,1,1,1,1,1;");
    }

    static void promise05_needsAreOfAPaperWithAnOfficeAhead() {
        unsound("a1,0;", "n1,1,0;", "g1,0;", "h1,0;", "c1,1;", "a11,0;", "a12,0;", "g999,0;", "g32,0;");
        for (String item : new String[] {"a0,1;", "n0,1,1;", "g0,0;", "h0,1;", "c0,1;"}) {
            due("ahead of its office: " + item, faultOf(item + HEAD), 0);
            due("behind its office: " + item, faultOf(HEAD + item), NONE);
            due("behind another's: " + item, faultOf("o1,1,1,1;" + item + HEAD), 9);
        }
    }

    static void promise05_aPaperThatIsNeededNeedsNoOffice() {
        sound("a0,1,2;", "n0,1,3,4;", "h0,5;");
    }

    static void promise05_itIsTheFirstByteOfTheFirstOne() {
        due("at the beginning", faultOf("x"), 0);
        due("of two the first", faultOf(HEAD + "g0,200;g0,300;"), 9);
        due("a later one", faultOf(HEAD + "g0,1;g0,300;"), 14);
        due("an end without item", faultOf(HEAD + "g0,1;;"), 14);
        due("a blank behind an end", faultOf(HEAD + "g0,1; "), 14);
        due("a letter behind an end", faultOf(HEAD + "c0,1;c"), 14);
    }

    static void promise05_aFullTextIsReadToItsEnd() {
        String many = "o0,0,0,0;" + "g0,1;".repeat(57);
        due("294 bytes and six", faultOf(many + "g0,12;"), NONE);
        due("no end at 300", faultOf(many + "g0,120"), 294);
        due("the last byte", faultOf(many + "g0,1;" + "o"), 299);
    }

    static void promise05_itChangesNothing() {
        Counted x = laid("o0,7,0,0;");
        x.wipe();
        x.writeAll("o1,1,1,1;x");
        due("fault()", x.fault(), 9);
        due("fault() again", x.fault(), 9);
        due("LAID", x.office(0, 0), 7);
        due("LAID", x.office(1, 0), NONE);
        due("count(0)", x.count(0), 1);
        x.wipe();
        x.writeAll("o2,1,1,1;");
        due("fault()", x.fault(), NONE);
        due("nothing is laid by it", x.office(2, 0), NONE);
        due("THE TEXT stays", x.count(2), 9);
    }

    // ---- promise 6: lay

    static void promise06_anEmptyTextHas0Items() {
        Counted x = laid("o0,1,1,1;");
        x.wipe();
        due("lay()", x.lay(), 0);
        due("no office is left", x.office(0, 0), NONE);
        due("count(0)", x.count(0), 0);
    }

    static void promise06_itLaysAsManyItemsAsATextHolds() {
        Counted x = new Counted();
        x.writeAll("o0,0,0,0;" + "g0,1;".repeat(58));
        due("length", x.count(2), 299);
        due("lay()", x.lay(), 59);
        due("count(0)", x.count(0), 59);
        due("NEEDS", x.office(0, 4), 58);
    }

    static void promise06_aFaultLaysNothing() {
        Counted x = laid("o0,5,1,1;g0,1;");
        x.wipe();
        x.writeAll("o0,6,1,1;o1,1,1,1;o1,1,1,1;");
        due("lay()", x.lay(), NO);
        due("count(0)", x.count(0), 2);
        due("count(1)", x.count(1), 1);
        due("FEE", x.office(0, 0), 5);
        due("no part of it is laid", x.office(1, 0), NONE);
        due("THE TEXT stays", x.count(2), 27);
        due("lay() again", x.lay(), NO);
    }

    static void promise06_aFaultInTheLastByteLaysNothing() {
        Counted x = new Counted();
        x.writeAll("o0,0,0,0;" + "g0,1;".repeat(58) + "o");
        due("lay()", x.lay(), NO);
        due("count(0)", x.count(0), 0);
        due("office", x.office(0, 0), NONE);
    }

    static void promise06_nothingIsLeftOfWhatWasLaid() {
        Counted x = laid("o1,9,9,9;c1,9;a1,2;n1,1,3;g1,99;h1,4;o2,1,1,1;");
        due("lay()", x.layOther("o1,0,0,0;"), 1);
        int[] want = {0, 0, 0, 1, 0};
        for (int what = 0; what <= 4; what++) {
            due("office(1, " + what + ")", x.office(1, what), want[what]);
        }
        due("the other office", x.office(2, 0), NONE);
        due("no NEED", x.may(0, 0, 1), 1);
        due("count(1)", x.count(1), 1);
    }

    static void promise06_theTextStaysAndMayBeLaidAgain() {
        Counted x = laid("o1,9,9,9;");
        due("count(2)", x.count(2), 9);
        due("lay()", x.lay(), 1);
        x.writeAll("o2,9,9,9;");
        due("what is written behind is not laid yet", x.office(2, 0), NONE);
        due("lay()", x.lay(), 2);
        due("now it is", x.office(2, 0), 9);
    }

    static void promise06_personsAndPlansStay() {
        Counted x = new Counted();
        x.person(2, 5, 50);
        x.plan(2, 0);
        x.layOther("o0,3,0,0;g0,50;");
        due("set and AGE", x.judge(2, 3), 3);
        due("PLAN", x.count(3), 1);
        due("set", x.person(2, 0, 0), 5);
    }

    // ---- promise 7: office

    static void promise07_aPaperIs0To11() {
        edges("paper", 0, 11, n -> laid(offices(12, "1,1,1")).office(n, 0));
    }

    static void promise07_whatIs0To4() {
        edges("what", 0, 4, n -> laid("o0,1,1,1;").office(0, n));
    }

    static void promise07_theLowestNumbers() {
        Counted x = laid("o0,0,0,0;");
        int[] want = {0, 0, 0, 1, 0};
        for (int what = 0; what <= 4; what++) {
            due("office(0, " + what + ")", x.office(0, what), want[what]);
        }
    }

    static void promise07_theHighestNumbers() {
        Counted x = laid("o11,999,99,999;c11,9;" + "g11,1;".repeat(46));
        int[] want = {999, 99, 999, 9, 46};
        for (int what = 0; what <= 4; what++) {
            due("office(11, " + what + ")", x.office(11, what), want[what]);
        }
    }

    static void promise07_cIs1WithoutAndAsTold() {
        due("without", laid("o0,0,0,0;").office(0, 3), 1);
        due("1", laid("o0,0,0,0;c0,1;").office(0, 3), 1);
        due("2", laid("o0,0,0,0;c0,2;").office(0, 3), 2);
        due("9", laid("o0,0,0,0;c0,9;").office(0, 3), 9);
        due("another's", laid("o1,0,0,0;o0,0,0,0;c0,9;").office(1, 3), 1);
    }

    static void promise07_needsAreTheItemsAnghOfThePaper() {
        Counted x = laid("o0,0,0,0;o1,0,0,0;a0,1;n0,1,1;g0,1;h0,1;c0,1;g1,1;");
        due("a, n, g, h, not o and c", x.office(0, 4), 4);
        due("another's", x.office(1, 4), 1);
    }

    static void promise07_noOfficeIsNone() {
        Counted x = laid("o1,0,0,0;a1,0;h1,2;");
        for (int what = 0; what <= 4; what++) {
            due("office(0, " + what + ")", x.office(0, what), NONE);
            due("office(2, " + what + ")", x.office(2, what), NONE);
        }
    }

    static void promise07_badComesAheadOfNone() {
        Counted x = new Counted();
        due("what below", x.office(0, -1), BAD);
        due("what above", x.office(0, 5), BAD);
        due("paper below", x.office(-1, 0), BAD);
        due("paper above", x.office(12, 0), BAD);
    }

    // ---- promise 8: may

    static void promise08_aPersonIs0To3() {
        edges("person", 0, 3, n -> laid("o0,0,0,0;").may(n, 0, 0));
    }

    static void promise08_aSetIs0To4095() {
        edges("set", 0, ALL, n -> laid("o0,0,0,0;").may(0, n, 0));
    }

    static void promise08_aPaperIs0To11() {
        edges("paper", 0, 11, n -> laid(offices(12, "0,0,0")).may(0, 0, n));
    }

    static void promise08_badComesEvenWithoutOffice() {
        Counted x = new Counted();
        due("person", x.may(4, 0, 0), BAD);
        due("set", x.may(0, 4096, 0), BAD);
        due("paper", x.may(0, 0, 12), BAD);
    }

    static void promise08_noOfficeIs0() {
        Counted x = laid("o1,0,0,0;a1,0;");
        due("may(0, 4095, 0)", x.may(0, ALL, 0), 0);
        due("may(0, 0, 0)", x.may(0, 0, 0), 0);
    }

    static void promise08_aNeedsAllOfThem() {
        Counted x = laid("o0,0,0,0;a0,1,2,3,4,5,11;");
        int all = 2 + 4 + 8 + 16 + 32 + 2048;
        due("all six", x.may(0, all, 0), 1);
        due("every paper", x.may(0, ALL, 0), 1);
        for (int paper = 0; paper <= 11; paper++) {
            if ((all >> paper & 1) == 1) {
                due("all but " + paper, x.may(0, ALL & ~(1 << paper), 0), 0);
            }
        }
        due("none", x.may(0, 0, 0), 0);
    }

    static void promise08_aThatTellsOneTwiceNeedsItOnce() {
        Counted x = laid("o0,0,0,0;a0,3,3,3;");
        due("it is had", x.may(0, 8, 0), 1);
        due("it is not", x.may(0, ALL & ~8, 0), 0);
    }

    static void promise08_nNeedsKOfThem() {
        Counted x = laid("o0,0,0,0;n0,3,1,2,3,4,5,6;o7,0,0,0;n7,6,0,1,2,3,4,11;o8,0,0,0;n8,1,0,11;");
        due("K less 1", x.may(0, 2 + 4, 0), 0);
        due("K", x.may(0, 2 + 4 + 64, 0), 1);
        due("K and 1", x.may(0, 2 + 4 + 8 + 64, 0), 1);
        due("K less 1 and others", x.may(0, ALL & ~(2 + 4 + 8 + 16), 0), 0);
        due("five of six", x.may(0, ALL & ~2048, 7), 0);
        due("six of six", x.may(0, 1 + 2 + 4 + 8 + 16 + 2048, 7), 1);
        due("one of two", x.may(0, 2048, 8), 1);
        due("none of two", x.may(0, ALL & ~2049, 8), 0);
    }

    static void promise08_gNeedsTheAgeItself() {
        Counted x = laid("o0,0,0,0;g0,18;o1,0,0,0;g1,0;o2,0,0,0;g2,120;");
        x.person(0, 0, 17);
        due("17 of 18", x.may(0, 0, 0), 0);
        x.person(0, 0, 18);
        due("18 of 18", x.may(0, 0, 0), 1);
        x.person(0, 0, 119);
        due("119 of 120", x.may(0, 0, 2), 0);
        x.person(0, 0, 120);
        due("120 of 120", x.may(0, 0, 2), 1);
        due("0 of 0", x.may(1, 0, 1), 1);
    }

    static void promise08_hNeedsAnotherPerson() {
        for (int owner = 0; owner <= 3; owner++) {
            Counted x = laid("o0,0,0,0;h0,11;o1,0,0,0;h1,0;");
            x.person(owner, 2048, 0);
            for (int person = 0; person <= 3; person++) {
                due(owner + " has it, asked by " + person, x.may(person, ALL, 0), person == owner ? 0 : 1);
                due("paper 0, that nobody has at first", x.may(person, ALL, 1), 0);
            }
        }
    }

    static void promise08_othersHaveWhatTheyHaveAtFirst() {
        Counted x = laid("o0,0,0,0;o1,0,0,0;h1,0;");
        due("REACHED by others is not had at first", x.may(0, 0, 1), 0);
    }

    static void promise08_itHasTheToldSetAndNoMore() {
        Counted x = laid("o0,0,0,0;a0,1;");
        x.person(0, 2, 0);
        due("what it has at first is not looked at", x.may(0, 0, 0), 0);
        x.person(0, 0, 0);
        due("the told set is", x.may(0, 2, 0), 1);
    }

    static void promise08_thePaperItselfOnlyWhereANeedTellsIt() {
        Counted x = laid("o0,0,0,0;o1,0,0,0;a1,1;o2,0,0,0;n2,1,2,3;");
        due("had already", x.may(0, 1, 0), 1);
        due("told by a, not had", x.may(0, ALL & ~2, 1), 0);
        due("told by a, had", x.may(0, 2, 1), 1);
        due("told by n, had", x.may(0, 4, 2), 1);
        due("told by n, none", x.may(0, ALL & ~12, 2), 0);
    }

    // ---- promise 9: lack

    static void promise09_aPersonIs0To3() {
        edges("person", 0, 3, n -> laid("o0,0,0,0;").lack(n, 0, 0));
    }

    static void promise09_aSetIs0To4095() {
        edges("set", 0, ALL, n -> laid("o0,0,0,0;").lack(0, n, 0));
    }

    static void promise09_aPaperIs0To11() {
        edges("paper", 0, 11, n -> laid(offices(12, "0,0,0")).lack(0, 0, n));
    }

    static void promise09_noOfficeIsNoneAndBadComesAhead() {
        Counted x = new Counted();
        due("no office", x.lack(0, ALL, 0), NONE);
        due("no office", x.lack(3, 0, 11), NONE);
        due("person", x.lack(4, 0, 0), BAD);
        due("person", x.lack(-1, 0, 0), BAD);
        due("set", x.lack(0, 4096, 0), BAD);
        due("set", x.lack(0, -1, 0), BAD);
        due("paper", x.lack(0, 0, 12), BAD);
        due("paper", x.lack(0, 0, -1), BAD);
    }

    static void promise09_noNeedLacksNothing() {
        due("no NEED", laid("o0,0,0,0;c0,2;").lack(0, 0, 0), 0);
        due("all hold", laid("o0,0,0,0;a0,1;g0,0;").lack(0, 2, 0), 0);
    }

    static void promise09_eachKindLacksAndHolds() {
        Counted x = laid("o0,0,0,0;a0,1,2;n0,2,3,4,5;c0,2;g0,30;h0,6;");
        x.person(0, 0, 29);
        due("none holds", x.lack(0, 2 + 8, 0), 2 + 4 + 16 + 32);
        x.person(0, 0, 30);
        due("g holds", x.lack(0, 2 + 8, 0), 2 + 4 + 32);
        x.person(3, 64, 0);
        due("h holds", x.lack(0, 2 + 8, 0), 2 + 4);
        due("a holds", x.lack(0, 2 + 4 + 8, 0), 4);
        due("n holds", x.lack(0, 2 + 4 + 8 + 32, 0), 0);
    }

    static void promise09_bitsAreNumbersOfItems() {
        Counted x = laid("o0,0,0,0;o1,0,0,0;g1,1;g0,1;");
        due("another's ITEMS are counted, not told", x.lack(0, 0, 0), 8);
        due("the other's", x.lack(0, 0, 1), 4);
    }

    static void promise09_item31IsTheLastThatIsTold() {
        Counted x = laid("o0,0,0,0;" + "g0,0;".repeat(29) + "g0,1;");
        due("ITEM 30", x.lack(0, 0, 0), 1 << 30);
        x.layOther("o0,0,0,0;" + "g0,0;".repeat(30) + "g0,1;");
        due("ITEM 31", x.lack(0, 0, 0), 1 << 31);
        x.layOther("o0,0,0,0;" + "g0,0;".repeat(31) + "g0,1;");
        due("ITEM 32", x.lack(0, 0, 0), 0);
        due("it lacks all the same", x.may(0, 0, 0), 0);
        x.layOther("o0,0,0,0;" + "g0,1;".repeat(58));
        due("bits 1 to 31 and nothing of ITEMS 32 to 58", x.lack(0, 0, 0), -2);
    }

    public static void main(String[] args) throws Exception {
        runAll(PersonsOfficesEdgesTest.class, 1, 9);
    }
}
