/** Each promise of the document by hand: ordinary inputs, the edges that it names, wrong inputs. */
public final class PromisesTest {
    private static final int BAD = -1, NO = -2, FULL = -3, NONE = -4;
    private static int wrong = 0;
    private static int asked = 0;

    private static void due(int promise, String call, int got, int want) {
        asked++;
        if (got != want) {
            wrong++;
            System.out.println("promise " + promise + ": " + call + " answered " + got + ", due is " + want);
        }
    }

    private static void rewrite(Counted x, String text) {
        x.wipe();
        x.writeAll(text);
    }

    private static Counted laid(String text) {
        Counted x = new Counted();
        rewrite(x, text);
        due(6, "lay() of " + text, x.lay() >= 0 ? 1 : 0, 1);
        return x;
    }

    private static String times(String part, int many) {
        return part.repeat(many);
    }

    private static void newObject() {
        Counted x = new Counted();
        for (int what = 0; what < 5; what++) {
            due(1, "count(" + what + ")", x.count(what), 0);
        }
        due(1, "fault()", x.fault(), NONE);
        due(1, "lay()", x.lay(), 0);
        due(1, "office(0, 0)", x.office(0, 0), NONE);
        for (int person = 0; person < 4; person++) {
            due(1, "reach", x.reach(person), 0);
            due(1, "judge", x.judge(person, 2), 0);
            due(1, "noPlan", x.noPlan(person), 0);
            due(1, "person", x.person(person, 1, 1), 0);
        }
        due(1, "restore()", x.restore(), NO);
        Counted young = laid("o0,0,0,0;g0,0;o1,0,0,0;g1,1;");
        due(1, "age 0 at first", young.reach(3), 1);
    }

    private static void persons() {
        Counted x = laid("o0,0,0,0;g0,120;");
        due(2, "person(0, 4094, 120)", x.person(0, 4094, 120), 0);
        due(2, "age 120 holds", x.may(0, 0, 0), 1);
        due(2, "person below", x.person(-1, 0, 0), BAD);
        due(2, "person above", x.person(4, 0, 0), BAD);
        due(2, "set below", x.person(0, -1, 0), BAD);
        due(2, "set above", x.person(0, 4096, 0), BAD);
        due(2, "age below", x.person(0, 0, -1), BAD);
        due(2, "age above", x.person(0, 0, 121), BAD);
        due(2, "nothing changed", x.reach(0), 4095);
        due(2, "the set that it had", x.person(0, 5, 0), 4094);
        due(2, "the set that it had", x.person(0, 0, 0), 5);
        due(2, "the others untouched", x.person(1, 0, 0), 0);
    }

    private static void writing() {
        Counted x = new Counted();
        due(3, "write(0, 0)", x.write(0, 0), BAD);
        due(3, "write(9, 0)", x.write(9, 0), BAD);
        due(3, "write(-1, 0)", x.write(-1, 0), BAD);
        // "o1,23,4," and "5;" with signs above that do not count
        due(3, "write 8", x.write(8, 0x6f312c32332c342cL), 8);
        due(3, "write 2", x.write(2, 0x7878353bL), 10);
        due(3, "lay()", x.lay(), 1);
        due(3, "FEE", x.office(1, 0), 23);
        due(3, "D", x.office(1, 1), 4);
        due(3, "L", x.office(1, 2), 5);
        due(3, "a byte above 127", x.write(1, -1L), 11);
        due(3, "fault()", x.fault(), 10);
        x.wipe();
        for (int i = 1; i <= 37; i++) {
            due(3, "write 8", x.write(8, 0L), 8 * i);
        }
        due(3, "write 5 beyond 300", x.write(5, 0L), FULL);
        due(3, "nothing written", x.count(2), 296);
        due(3, "write 4 to 300", x.write(4, 0L), 300);
        due(3, "write 1 beyond 300", x.write(1, 0L), FULL);
        due(3, "BAD comes first", x.write(0, 0L), BAD);
        due(4, "wipe()", x.wipe(), 300);
        due(3, "room again", x.write(1, 0L), 1);
    }

    private static void wiping() {
        Counted x = laid("o3,7,0,0;");
        due(4, "wipe()", x.wipe(), 9);
        due(4, "wipe()", x.wipe(), 0);
        due(4, "fault()", x.fault(), NONE);
        due(4, "LAID stays", x.office(3, 0), 7);
    }

    private static final String[] SOUND = {
        "", "o0,0,0,0;", "o11,999,99,999;", "o00,001,02,003;", "o0,1,1,1;a0,1,2,3,4,5,6;", "o0,1,1,1;a0,0;",
        "o0,1,1,1;a0,9,9,9,9,9,9;", "o0,1,1,1;n0,6,1,2,3,4,5,6;", "o0,1,1,1;n0,1,1;", "o0,1,1,1;n0,1,1,2,3,4,5,11;",
        "o0,1,1,1;g0,120;", "o0,1,1,1;g0,0;g0,0;", "o0,1,1,1;h0,11;h0,11;", "o0,1,1,1;c0,9;", "o0,1,1,1;c0,1;o1,1,1,1;c1,1;",
        "o0,1,1,1;g000,007;",
    };

    /** Items that are not so behind an office for paper 0. */
    private static final String[] UNSOUND = {
        "o0,1,1,1;", "o12,1,1,1;", "o1,1,100,1;", "o1,1000,1,1;", "o1,1,1,1000;", "o1,1,1;", "o1,1,1,1,1;", "o1,1,1,1",
        "o1,1,1,1,", "o1,1,1,", "o", "o;", "o1", "o,1,1,1;", "o1,,1,1;", "o1,1,1,;", "o1,1,1,1:", "o-1,1,1,1;", "o1, 1,1,1;",
        ";", ",", "x", "O1,1,1,1;", " o1,1,1,1;", "p1,1,1,1;", "0", "o0001,1,1,1;",
        "a1,0;", "a0;", "a0,12;", "a0,1,12;", "a0,1,2,3,4,5,6,7;", "a0,1,2,3,4,5,6,7,8;", "a0,1", "a12,0;", "a0,1,;",
        "n0,0,1;", "n0,7,1,2,3,4,5,6;", "n0,2,1;", "n0,1;", "n0;", "n0,1,12;", "n0,1,1,1;", "n0,1,1,2,3,4,5,6,7;", "n1,1,0;",
        "n0,1,1,2,3,4,5,6,7,8;", "x0,1;", "g0,121;", "g0;", "g0,1,1;", "g1,1;", "h0,12;", "h0;", "h0,1,1;", "h1,1;",
        "c0,0;", "c0,10;", "c0;", "c0,1,1;", "c1,1;",
    };

    private static void faults() {
        for (String text : SOUND) {
            Counted x = new Counted();
            x.writeAll(text);
            due(5, "fault() of " + text, x.fault(), NONE);
        }
        for (String item : UNSOUND) {
            Counted x = new Counted();
            rewrite(x, "o0,1,1,1;" + item);
            due(5, "fault() behind an office: " + item, x.fault(), 9);
            due(6, "lay()", x.lay(), NO);
            rewrite(x, "o0,1,1,1;" + item + "o9,9,9,9;");
            due(5, "fault() ahead of an office: " + item, x.fault(), 9);
        }
        Counted x = new Counted();
        rewrite(x, "o0,1,1,1;c0,1;c0,1;");
        due(5, "c twice", x.fault(), 14);
        rewrite(x, "a0,1;o0,1,1,1;");
        due(5, "an office told behind", x.fault(), 0);
        rewrite(x, "o0,1,1,1;g0,200;g0,200;");
        due(5, "the first of several", x.fault(), 9);
        rewrite(x, "o0,0,0,0;" + times("g0,1;", 57) + "g0,120");
        due(5, "300 bytes and no end", x.fault(), 294);
        rewrite(x, "o0,0,0,0;" + times("g0,1;", 58) + "o");
        due(5, "300 bytes and a letter", x.fault(), 299);
        rewrite(x, "o0,1,1,1");
        due(5, "what was wiped is no end", x.fault(), 0);
    }

    private static void laying() {
        Counted x = laid("o0,1,2,3;g0,4;");
        rewrite(x, "o1,1,1,1;z");
        due(6, "lay()", x.lay(), NO);
        due(6, "what was LAID stays", x.office(0, 1), 2);
        due(6, "what was LAID stays", x.count(0), 2);
        rewrite(x, "o1,1,1,1;a1,0;n1,1,0;g1,1;h1,0;c1,2;");
        due(6, "not LAID before lay()", x.office(1, 0), NONE);
        due(6, "lay()", x.lay(), 6);
        due(6, "the old office is gone", x.office(0, 0), NONE);
        due(6, "THE TEXT stays", x.count(2), 36);
        rewrite(x, "o0,0,0,0;" + times("g0,1;", 58));
        due(6, "as many ITEMS as a TEXT holds", x.lay(), 59);
        rewrite(x, "o1,1,1,1;c1,3;");
        x.lay();
        rewrite(x, "o1,1,1,1;");
        x.lay();
        due(6, "no C is left from the last TEXT", x.office(1, 3), 1);
        x.wipe();
        due(6, "an empty TEXT", x.lay(), 0);
        due(6, "no office", x.office(1, 0), NONE);
    }

    private static void offices() {
        Counted x = laid("o11,999,99,998;a11,0;c11,9;n11,1,0;g11,1;h11,1;o0,0,0,0;");
        int[] want = {999, 99, 998, 9, 4};
        int[] plain = {0, 0, 0, 1, 0};
        for (int what = 0; what < 5; what++) {
            due(7, "office(11, " + what + ")", x.office(11, what), want[what]);
            due(7, "office(0, " + what + ")", x.office(0, what), plain[what]);
        }
        due(7, "no office", x.office(1, 0), NONE);
        due(7, "BAD comes first", x.office(1, 5), BAD);
        due(7, "what below", x.office(0, -1), BAD);
        due(7, "paper below", x.office(-1, 0), BAD);
        due(7, "paper above", x.office(12, 0), BAD);
    }

    private static void mayHave() {
        Counted x = laid("o0,0,0,0;a0,1,2;n0,2,3,4,5;g0,30;h0,6;o1,0,0,0;o2,0,0,0;a2,2;");
        x.person(0, 0, 30);
        x.person(1, 64, 0);
        int all = 2 + 4 + 8 + 16;
        due(8, "all hold", x.may(0, all, 0), 1);
        due(8, "one of all lacks", x.may(0, all & ~2, 0), 0);
        due(8, "one of K lacks", x.may(0, all & ~8, 0), 0);
        due(8, "more than K", x.may(0, 4095, 0), 1);
        due(8, "what it has itself is no other's", x.may(1, 4095, 0), 0);
        x.person(1, 64, 30);
        due(8, "what it has itself is no other's", x.may(1, 4095, 0), 0);
        x.person(0, 0, 29);
        due(8, "too young", x.may(0, all, 0), 0);
        due(8, "no NEED", x.may(0, 0, 1), 1);
        due(8, "had already", x.may(0, 2, 1), 1);
        due(8, "itself told", x.may(0, 0, 2), 0);
        due(8, "itself told and had", x.may(0, 4, 2), 1);
        due(8, "no office", x.may(0, 4095, 3), 0);
        due(8, "person", x.may(4, 0, 0), BAD);
        due(8, "person", x.may(-1, 0, 0), BAD);
        due(8, "set", x.may(0, 4096, 0), BAD);
        due(8, "set", x.may(0, -1, 0), BAD);
        due(8, "paper", x.may(0, 0, 12), BAD);
        due(8, "paper", x.may(0, 0, -1), BAD);
    }

    private static void lacks() {
        Counted x = laid("o0,0,0,0;a0,1,2;n0,2,3,4,5;c0,2;g0,30;h0,6;o1,0,0,0;a1,0;");
        due(9, "all four", x.lack(0, 0, 0), 2 + 4 + 16 + 32);
        due(9, "a holds", x.lack(0, 6, 0), 4 + 16 + 32);
        due(9, "n holds", x.lack(0, 40, 0), 2 + 16 + 32);
        x.person(0, 64, 30);
        due(9, "g holds", x.lack(0, 0, 0), 2 + 4 + 32);
        x.person(2, 64, 0);
        due(9, "h holds", x.lack(0, 46, 0), 0);
        due(9, "another paper's", x.lack(0, 0, 1), 128);
        due(9, "no office", x.lack(0, 0, 2), NONE);
        due(9, "person", x.lack(4, 0, 2), BAD);
        due(9, "set", x.lack(0, 4096, 2), BAD);
        due(9, "set", x.lack(0, -1, 2), BAD);
        due(9, "paper", x.lack(0, 0, 12), BAD);
        due(9, "paper", x.lack(0, 0, -1), BAD);
        due(9, "person", x.lack(-1, 0, 0), BAD);
        Counted many = laid("o0,0,0,0;" + times("g0,1;", 58));
        due(9, "bits 1 to 31", many.lack(0, 0, 0), -2);
        Counted late = laid("o0,0,0,0;" + times("g0,0;", 30) + "g0,1;");
        due(9, "bit 31", late.lack(0, 0, 0), Integer.MIN_VALUE);
        Counted later = laid("o0,0,0,0;" + times("g0,0;", 31) + "g0,1;");
        due(9, "ITEM 32 is not told", later.lack(0, 0, 0), 0);
        due(9, "and lacks all the same", later.may(0, 0, 0), 0);
    }

    private static void reached() {
        Counted x = laid("o0,0,0,0;o1,0,0,0;o2,0,0,0;a0,3;h1,0;h2,1;");
        x.person(0, 8, 0);
        due(10, "lent one another", x.reach(0), 8 + 1 + 4);
        due(10, "lent one another", x.reach(1), 2 + 4);
        due(11, "had at first", x.round(0, 3), 0);
        due(11, "first", x.round(0, 0), 1);
        due(11, "by what all had ahead", x.round(1, 1), 2);
        due(11, "by what all had ahead", x.round(0, 2), 3);
        due(11, "by what all had ahead", x.round(3, 2), 3);
        due(11, "nobody else has it", x.round(0, 1), NONE);
        due(11, "never", x.round(1, 0), NONE);
        due(10, "person", x.reach(4), BAD);
        due(10, "person", x.reach(-1), BAD);
        due(11, "person", x.round(4, 0), BAD);
        due(11, "person", x.round(-1, 0), BAD);
        due(11, "paper", x.round(0, 12), BAD);
        due(11, "paper", x.round(0, -1), BAD);
        due(10, "what was had at first is not changed", x.person(0, 0, 0), 8);
        due(10, "nobody has 3", x.reach(1), 0);
        Counted chain = laid("o0,0,0,0;o1,0,0,0;o2,0,0,0;o3,0,0,0;a1,0;a2,1;n3,2,1,2,9;");
        due(11, "0", chain.round(2, 0), 1);
        due(11, "1", chain.round(2, 1), 2);
        due(11, "2", chain.round(2, 2), 3);
        due(11, "3", chain.round(2, 3), 4);
        due(10, "all", chain.reach(2), 15);
    }

    private static void rings() {
        Counted x = laid("o0,0,0,0;o1,0,0,0;o2,0,0,0;o3,0,0,0;o4,0,0,0;a0,1;a1,2;a2,0;");
        due(12, "three", x.ring(0, -1), 3);
        due(12, "first", x.ring(0, 0), 0);
        due(12, "second", x.ring(0, 1), 1);
        due(12, "third", x.ring(0, 2), 2);
        due(12, "there is no fourth", x.ring(0, 3), NONE);
        due(12, "i", x.ring(0, -2), BAD);
        due(12, "person", x.ring(4, 0), BAD);
        due(12, "person", x.ring(-1, 0), BAD);
        x.person(0, 4, 0);
        due(12, "who is in knows no ring", x.ring(0, -1), NONE);
        due(12, "who is in knows no ring", x.ring(0, 0), NONE);
        due(12, "others do", x.ring(1, -1), 3);

        Counted two = laid("o0,0,0,0;o1,0,0,0;o2,0,0,0;o5,0,0,0;o7,0,0,0;a2,5;a5,2;a1,7;n7,1,1,0;a0,2,5,1;g0,9;");
        due(12, "two of several", two.ring(0, -1), 2);
        due(12, "the lowest first", two.ring(0, 0), 1);
        due(12, "its second", two.ring(0, 1), 7);
        Counted second = laid("o0,0,0,0;o2,0,0,0;o3,0,0,0;a0,3,2;a2,0;a3,0;");
        due(12, "the lowest second", second.ring(0, 1), 2);
        Counted both = laid("o0,0,0,0;o1,0,0,0;o2,0,0,0;a0,2;a0,1;a2,0;");
        due(12, "by the first of two NEEDS", both.ring(0, 1), 2);
        rewrite(both, "o0,0,0,0;o2,0,0,0;a2,0;g0,1;");
        both.lay();
        due(12, "nothing is left of the last TEXT", both.ring(0, -1), NONE);
        Counted self = laid("o0,0,0,0;o1,0,0,0;o4,0,0,0;a0,1;a1,0;n4,1,4,5;");
        due(12, "one by itself is fewer", self.ring(0, -1), 1);
        due(12, "one by itself", self.ring(0, 0), 4);
        Counted held = laid("o0,0,0,0;o1,0,0,0;o2,0,0,0;n0,1,1,2;g0,50;a1,0;");
        due(12, "a NEED that holds by what is REACHED ties none", held.ring(0, -1), NONE);
        Counted age = laid("o0,0,0,0;o1,0,0,0;a0,1;g1,9;h1,0;");
        due(12, "g and h make no ring", age.ring(0, -1), NONE);
        Counted dead = laid("o0,0,0,0;a0,1;");
        due(12, "a paper without office ends the way", dead.ring(0, -1), NONE);
        Counted twelve = laid("o0,0,0,0;o1,0,0,0;o2,0,0,0;o3,0,0,0;o4,0,0,0;o5,0,0,0;o6,0,0,0;o7,0,0,0;o8,0,0,0;"
            + "o9,0,0,0;o10,0,0,0;o11,0,0,0;a0,11;a11,10;a10,9;a9,8;a8,7;a7,6;a6,5;a5,4;a4,3;a3,2;a2,1;a1,0;");
        due(12, "twelve", twelve.ring(0, -1), 12);
        due(12, "the last of twelve", twelve.ring(0, 11), 1);
        due(12, "there is no thirteenth", twelve.ring(0, 12), NONE);
    }

    private static void backs() {
        Counted x = laid("o0,0,0,0;o1,0,0,0;a0,1;a1,0;o2,0,0,0;o3,0,0,0;a3,3;");
        x.person(0, 1 + 8 + 32, 0);
        due(13, "each of two gives the other again", x.back(0), 8 + 32);
        due(13, "what needs nothing comes again", x.back(1), 0);
        due(13, "person", x.back(4), BAD);
        due(13, "person", x.back(-1), BAD);
        Counted zero = laid("o1,0,0,0;a1,0;");
        zero.person(0, 1, 0);
        due(13, "paper 0", zero.back(0), 1);
        Counted lent = laid("o0,0,0,0;o1,0,0,0;o2,0,0,0;a0,3;h1,0;h2,1;");
        lent.person(0, 8, 0);
        due(13, "others get 1 again, by what it still has", lent.back(0), 8);
        due(13, "lent one another, 1 and 2 come again", lent.back(1), 0);
        lent.person(1, 2, 0);
        due(13, "one has 1 at first", lent.back(0), 8);
    }

    private static void backsLent() {
        Counted ring = laid("o0,0,0,0;h0,1;o1,0,0,0;h1,0;");
        ring.person(0, 1, 0);
        due(10, "both", ring.reach(0), 3);
        due(13, "forth and back again by the other paper", ring.back(0), 0);
        Counted young = laid("o0,0,0,0;h0,1;o1,0,0,0;h1,0;g1,5;");
        young.person(0, 1, 4);
        young.person(1, 0, 5);
        due(10, "the other got 1", young.reach(1), 2);
        due(13, "others begin as at first: 1 was got by what is gone", young.back(0), 1);
        young.person(2, 2, 0);
        due(13, "one has 1 at first", young.back(0), 0);
        due(13, "what it has at first itself is gone too", young.back(2), 2);
    }

    private static void openings() {
        Counted x = laid("o0,0,0,0;n0,2,1,2,3;o5,0,0,0;a5,5;o6,0,0,0;g6,9;o7,0,0,0;a7,0,8;");
        due(14, "the least bits", x.opened(0, 0, 0), 6);
        due(14, "how many papers", x.opened(0, 0, 1), 2);
        due(14, "how many sets", x.opened(0, 0, 2), 3);
        x.person(0, 8, 0);
        due(14, "besides what it has", x.opened(0, 0, 0), 2);
        due(14, "besides what it has", x.opened(0, 0, 2), 2);
        due(14, "through another paper", x.opened(0, 7, 0), 257);
        due(14, "through another paper", x.opened(0, 7, 2), 3);
        due(14, "not that paper itself", x.opened(0, 5, 0), NONE);
        due(14, "no paper makes older", x.opened(0, 6, 1), NONE);
        due(14, "no office", x.opened(0, 9, 2), NONE);
        due(14, "had: the empty set", x.opened(0, 3, 0), 0);
        due(14, "had: no paper", x.opened(0, 3, 1), 0);
        due(14, "had: one set", x.opened(0, 3, 2), 1);
        due(14, "what", x.opened(0, 9, 3), BAD);
        due(14, "what", x.opened(0, 0, -1), BAD);
        due(14, "person", x.opened(4, 0, 0), BAD);
        due(14, "person", x.opened(-1, 0, 0), BAD);
        due(14, "paper", x.opened(0, 12, 0), BAD);
        due(14, "paper", x.opened(0, -1, 0), BAD);
        Counted eleven = laid("o0,0,0,0;a0,1,2,3,4,5,6;a0,7,8,9,10,11;");
        due(14, "eleven papers", eleven.opened(0, 0, 0), 4094);
        due(14, "eleven papers", eleven.opened(0, 0, 1), 11);
        Counted lent = laid("o0,0,0,0;o1,0,0,0;h1,0;o2,0,0,0;n2,2,1,3,4;");
        due(14, "reached together", lent.round(0, 1), 2);
        due(14, "what comes by others is not given", lent.opened(0, 2, 0), 8);
        due(14, "what comes by others is not given", lent.opened(0, 2, 1), 1);
        due(14, "what comes by others is not given", lent.opened(0, 2, 2), 2);
        due(14, "reached together: the empty set", lent.opened(0, 1, 0), 0);
        due(14, "reached together: one set", lent.opened(0, 1, 2), 1);
    }

    private static void opened(String told, Counted x, int person, int paper, int least, int rivals) {
        due(14, told + ", the set", x.opened(person, paper, 0), least);
        due(14, told + ", how many papers", x.opened(person, paper, 1), least == NONE ? NONE : Integer.bitCount(least));
        due(14, told + ", how many sets", x.opened(person, paper, 2), rivals);
    }

    private static void openingsLent() {
        Counted two = laid("o0,0,0,0;h0,1;o1,0,0,0;h1,2;o2,0,0,0;h2,3;");
        opened("given to lend", two, 0, 0, 4, 2);
        opened("given to lend", two, 3, 1, 8, 1);
        Counted ring = laid("o0,0,0,0;h0,1;o1,0,0,0;h1,0;");
        opened("forth and back, not that paper itself", ring, 0, 0, 2, 1);
        Counted more = laid("o0,0,0,0;a0,1,2;o1,0,0,0;h1,3;o2,0,0,0;h2,4;o3,0,0,0;h3,5;o4,0,0,0;h4,5;");
        opened("one paper lent for two", more, 1, 0, 32, 1);
        Counted old = laid("o0,0,0,0;h0,1;o1,0,0,0;h1,2;g1,9;");
        opened("nobody is old enough", old, 0, 0, NONE, NONE);
        old.person(3, 0, 9);
        opened("another is old enough", old, 0, 0, 4, 1);
        opened("the old one itself lends to nobody", old, 3, 0, NONE, NONE);
        due(14, "nothing is given in truth", old.reach(0), 0);
        due(14, "nothing is given in truth", old.person(0, 0, 0), 0);
        Counted others = laid("o0,0,0,0;a0,1;o1,0,0,0;g1,9;");
        others.person(1, 0, 9);
        opened("what others reach may still be given", others, 0, 0, 2, 1);
    }

    private static void cheap() {
        Counted x = laid("o0,1,0,0;o1,1,0,0;o2,1,0,0;o3,3,0,0;o4,5,0,0;o5,3,0,0;a0,1,2;n1,1,3,4;n2,1,4,5;");
        due(15, "one paper serves twice", x.cheapest(0, 0, 0), 8);
        due(15, "the set", x.cheapest(0, 0, 1), 23);
        due(15, "FIRST", x.cheapest(0, 0, 2), 4);
        due(15, "the cheaper one alone", x.cheapest(0, 1, 1), 10);
        x.person(0, 8 + 64, 0);
        due(15, "what is had costs nothing", x.cheapest(0, 0, 0), 6);
        due(15, "what is had is in the set", x.cheapest(0, 0, 1), 1 + 2 + 4 + 8 + 32 + 64);
        due(15, "FIRST is none that is had", x.cheapest(0, 0, 2), 1);
        due(15, "had", x.cheapest(0, 6, 0), 0);
        due(15, "had", x.cheapest(0, 6, 1), 72);
        due(15, "had", x.cheapest(0, 6, 2), NONE);
        due(15, "none", x.cheapest(0, 7, 0), NONE);
        due(15, "none", x.cheapest(0, 7, 1), NONE);
        due(15, "none", x.cheapest(0, 7, 2), NONE);
        due(15, "what", x.cheapest(0, 7, 3), BAD);
        due(15, "what", x.cheapest(0, 0, -1), BAD);
        due(15, "person", x.cheapest(4, 0, 0), BAD);
        due(15, "person", x.cheapest(-1, 0, 0), BAD);
        due(15, "paper", x.cheapest(0, 12, 0), BAD);
        due(15, "paper", x.cheapest(0, -1, 0), BAD);
        Counted tie = laid("o0,1,0,0;o1,3,0,0;o2,2,0,0;o3,1,0,0;n0,1,1,2;a2,3;");
        due(15, "like fees", tie.cheapest(0, 0, 0), 4);
        due(15, "the least bits", tie.cheapest(0, 0, 1), 3);
        Counted free = laid("o0,0,0,0;o1,0,0,0;a1,0;");
        due(15, "FIRST is 0", free.cheapest(0, 1, 2), 0);
        free.person(0, 1, 0);
        due(15, "a had paper that it MAY HAVE is not FIRST", free.cheapest(0, 1, 2), 1);
        rewrite(free, "o0,0,0,0;a0,0;o1,0,0,0;");
        free.lay();
        free.person(0, 0, 0);
        due(15, "nothing is left of the last TEXT", free.cheapest(0, 0, 0), NONE);
        Counted lent = laid("o0,2,0,0;o1,3,0,0;h1,0;");
        due(15, "others must have it at first", lent.cheapest(0, 1, 0), NONE);
        lent.person(3, 1, 0);
        due(15, "another has it at first", lent.cheapest(0, 1, 0), 3);
    }

    private static void soon() {
        Counted x = laid("o0,0,5,1;o1,0,9,1;o2,0,0,0;o3,0,7,0;n3,2,0,1,2;o4,0,1,0;a4,0,1;a4,2;o5,0,1,0;g5,9;h5,11;");
        due(16, "no NEED", x.soonest(0, 0), 5);
        due(16, "no DAYS", x.soonest(0, 2), 0);
        due(16, "the second of three", x.soonest(0, 3), 12);
        due(16, "the last of all", x.soonest(0, 4), 10);
        due(16, "too young", x.soonest(0, 5), NONE);
        x.person(0, 2, 9);
        due(16, "had at first", x.soonest(0, 1), 0);
        due(16, "by what is had at first", x.soonest(0, 3), 7);
        due(16, "nobody else has it", x.soonest(0, 5), NONE);
        x.person(2, 2048, 0);
        due(16, "another has it at first", x.soonest(0, 5), 1);
        due(16, "no office", x.soonest(0, 11), NONE);
        due(16, "person", x.soonest(4, 0), BAD);
        due(16, "person", x.soonest(-1, 0), BAD);
        due(16, "paper", x.soonest(0, 12), BAD);
        due(16, "paper", x.soonest(0, -1), BAD);
        Counted lent = laid("o0,0,2,0;o1,0,3,0;h1,0;");
        due(16, "others must have it at first", lent.soonest(0, 1), NONE);
        Counted two = laid("o0,0,9,0;n0,1,1,2;o1,0,50,0;o2,0,1,0;a2,3;o3,0,1,0;o4,0,0,0;a4,0,1;");
        due(16, "the sooner way though it is longer", two.soonest(0, 0), 11);
        due(16, "any number at once", two.soonest(0, 4), 50);
    }

    private static void plans() {
        Counted x = new Counted();
        for (int i = 1; i <= 12; i++) {
            due(17, "plan(1, 11)", x.plan(1, 11), i);
        }
        due(17, "a thirteenth", x.plan(1, 11), FULL);
        due(17, "BAD comes first", x.plan(1, 12), BAD);
        due(17, "paper", x.plan(0, -1), BAD);
        due(17, "person", x.plan(4, 0), BAD);
        due(17, "person", x.plan(-1, 0), BAD);
        due(17, "another's", x.plan(2, 0), 1);
        due(17, "all", x.count(3), 13);
        due(18, "noPlan(1)", x.noPlan(1), 12);
        due(18, "noPlan(1)", x.noPlan(1), 0);
        due(18, "another's stays", x.count(3), 1);
        due(18, "person", x.noPlan(4), BAD);
        due(18, "person", x.noPlan(-1), BAD);
        due(17, "room again", x.plan(1, 0), 1);
    }

    private static void planned(Counted x, int person, int... papers) {
        x.noPlan(person);
        for (int paper : papers) {
            x.plan(person, paper);
        }
    }

    private static void judged(String told, Counted x, int person, int... want) {
        for (int what = 0; what < 4; what++) {
            due(19, told + ", judge " + what, x.judge(person, what), want[what]);
        }
    }

    private static void judging() {
        Counted x = laid("o0,1,0,3;o1,10,2,0;o2,100,1,0;a2,0;h2,9;g2,3;o4,5,99,1;o5,0,0,0;a5,4;");
        judged("an empty plan", x, 0, NONE, NONE, 0, 0);
        x.person(0, 0, 3);
        x.person(3, 512, 0);
        planned(x, 0, 0, 1, 2);
        judged("good on its last day", x, 0, NONE, NONE, 3, 111);
        planned(x, 0, 0, 1, 2, 2);
        judged("lapsed a day later", x, 0, 3, 3, NONE, NONE);
        planned(x, 0, 0, 1, 2, 0, 2);
        judged("got again", x, 0, NONE, NONE, 4, 212);
        planned(x, 0, 4, 5);
        judged("good on the day on which it comes", x, 0, NONE, NONE, 99, 5);
        planned(x, 0, 1, 1, 1, 2);
        judged("the first NEED of several", x, 0, 3, 3, NONE, NONE);
        planned(x, 0, 1, 7, 2);
        judged("no office", x, 0, 1, NONE, NONE, NONE);
        x.person(0, 1, 3);
        planned(x, 0, 0, 1, 1, 2, 2);
        judged("had at first: for ever", x, 0, NONE, NONE, 6, 221);
        x.person(0, 0, 3);
        judged("lapsed, if not had at first", x, 0, 3, 3, NONE, NONE);
        x.person(0, 1, 2);
        judged("too young", x, 0, 3, 5, NONE, NONE);
        x.person(3, 0, 0);
        judged("nobody else has it", x, 0, 3, 4, NONE, NONE);
        due(19, "what", x.judge(0, 4), BAD);
        due(19, "what", x.judge(0, -1), BAD);
        due(19, "person", x.judge(4, 0), BAD);
        due(19, "person", x.judge(-1, 0), BAD);
        planned(x, 1, 4, 4, 4, 4, 4, 4, 4, 4, 4, 4, 4, 4);
        judged("beyond DAY 999", x, 1, NONE, NONE, 1188, 60);
        Counted late = laid("o0,0,0,0;" + times("g0,0;", 40) + "g0,1;");
        late.plan(0, 0);
        due(19, "a NEED behind ITEM 31", late.judge(0, 1), 41);
    }

    private static void mended(String told, Counted x, int persons, int paper, int... items) {
        due(20, told + ", how many", x.mend(persons, paper, -1), items.length);
        for (int i = 0; i < items.length; i++) {
            due(20, told + ", the " + i + "-th", x.mend(persons, paper, i), items[i]);
        }
        due(20, told + ", one more", x.mend(persons, paper, items.length), NONE);
    }

    private static void mending() {
        Counted x = laid("o0,0,0,0;g0,1;g0,2;g0,3;g0,4;o1,0,0,0;a1,2,3;o4,0,0,0;n4,3,5,6,7;h4,8;o9,0,0,0;a9,9;o10,0,0,0;a10,0;");
        due(20, "four changes", x.mend(1, 0, -1), NONE);
        x.person(0, 0, 1);
        mended("three g", x, 1, 0, 2, 3, 4);
        mended("three g on the way", x, 1, 10, 2, 3, 4);
        due(20, "one of the persons needs four", x.mend(3, 0, -1), NONE);
        x.person(1, 0, 120);
        mended("none", x, 2, 0);
        mended("for both", x, 3, 0, 2, 3, 4);
        due(20, "an a does not go", x.mend(1, 1, -1), NONE);
        x.person(0, 4, 0);
        mended("an a becomes n 1", x, 1, 1, 6);
        x.person(0, 32, 0);
        mended("one again", x, 1, 4, 8, 8, 9);
        x.person(2, 256, 0);
        mended("h holds by another", x, 1, 4, 8, 8);
        x.person(2, 256 + 32, 0);
        mended("h does not hold by oneself", x, 4, 4, 8, 8, 9);
        due(20, "an a of itself", x.mend(1, 9, 0), NONE);
        due(20, "had", x.mend(4, 8, -1), 0);
        due(20, "no office", x.mend(1, 8, -1), NONE);
        due(20, "persons", x.mend(0, 0, 0), BAD);
        due(20, "persons", x.mend(16, 0, 0), BAD);
        due(20, "persons", x.mend(-1, 0, 0), BAD);
        due(20, "paper", x.mend(1, 12, 0), BAD);
        due(20, "paper", x.mend(1, -1, 0), BAD);
        due(20, "i", x.mend(1, 0, -2), BAD);
        due(20, "the rules are as before", x.may(0, 0, 4), 0);
        due(20, "the rules are as before", x.lack(3, 0, 0), 2 + 4 + 8 + 16);
    }

    private static void mendingLowest() {
        Counted x = laid("o0,0,0,0;n0,1,1,2;o1,0,0,0;g1,9;o2,0,0,0;g2,9;");
        mended("the lowest of three rivals", x, 15, 0, 1);
        Counted late = laid("o1,0,0,0;g1,9;o0,0,0,0;n0,1,1,2;o2,0,0,0;g2,9;");
        mended("the lowest of three rivals", late, 15, 0, 1);
        Counted two = laid("o0,0,0,0;n0,2,1,2,3;o1,0,0,0;g1,9;o2,0,0,0;g2,9;o3,0,0,0;g3,9;");
        mended("the same one twice is lower than two", two, 1, 0, 1, 1);
        Counted later = laid("o1,0,0,0;g1,9;o2,0,0,0;g2,9;o3,0,0,0;g3,9;o0,0,0,0;n0,2,1,2,3;");
        mended("the first, then the second", later, 1, 0, 1, 3);
        Counted down = laid("o0,0,0,0;g0,9;a0,1;o1,0,0,0;g1,9;a1,2;o2,0,0,0;g2,9;");
        mended("by ITEMS, not by what opens first", down, 1, 0, 1, 4, 7);
        Counted crowd = laid("o0,0,0,0;n0,1,1,2;o1,0,0,0;g1,9;h1,5;o2,0,0,0;a2,6,7;g0,3;");
        crowd.person(0, 64, 3);
        crowd.person(1, 128, 9);
        mended("one change for two", crowd, 3, 0, 1);
        crowd.person(2, 32, 0);
        mended("two for three", crowd, 7, 0, 1, 7);
        Counted alone = laid("o0,0,0,0;o1,0,0,0;h1,0;");
        due(20, "reached together", alone.round(0, 1), 2);
        mended("by itself, others as at first", alone, 1, 1, 2);
    }

    private static void queueing() {
        Counted x = laid("o0,0,0,0;c0,2;o1,0,3,0;o2,0,1,0;a2,1;o3,0,0,0;h3,9;");
        for (int person = 0; person < 4; person++) {
            planned(x, person, 0);
        }
        due(21, "two a day", x.queue(15, 0), 0);
        due(21, "two a day", x.queue(15, 1), 0);
        due(21, "two a day", x.queue(15, 2), 1);
        due(21, "two a day", x.queue(15, 3), 1);
        due(21, "without the first", x.queue(14, 2), 0);
        due(21, "not of the set", x.queue(14, 0), BAD);
        due(21, "persons", x.queue(0, 0), BAD);
        due(21, "persons", x.queue(16, 0), BAD);
        due(21, "person", x.queue(15, 4), BAD);
        due(21, "person", x.queue(15, -1), BAD);
        planned(x, 0, 0, 0, 0, 0, 0);
        due(21, "the same counter again on that DAY", x.queue(1, 0), 2);
        due(21, "who comes first takes both", x.queue(3, 1), 2);
        planned(x, 0, 0, 1, 2);
        planned(x, 1, 1, 0, 2);
        due(21, "goes on at once", x.queue(3, 0), 4);
        due(21, "waits a DAY, then D DAYS", x.queue(3, 1), 5);
        due(21, "alone", x.queue(2, 1), 4);
        planned(x, 2, 2, 1);
        due(21, "a NEED does not hold", x.queue(15, 2), NONE);
        x.person(2, 2, 0);
        due(21, "by what it has at first", x.queue(4, 2), 4);
        planned(x, 3, 7);
        due(21, "no office", x.queue(15, 3), NONE);
        planned(x, 3, 3);
        due(21, "nobody else has it", x.queue(15, 3), NONE);
        x.person(0, 512, 0);
        due(21, "another has it at first, though not of the set", x.queue(8, 3), 0);
        x.noPlan(3);
        due(21, "an empty plan", x.queue(15, 3), 0);
    }

    private static void queueingLong() {
        Counted x = laid("o0,0,99,0;o1,0,9,0;o2,0,10,0;o3,0,0,0;o4,0,1,1;o5,0,1,0;a5,4;");
        planned(x, 0, 0, 0, 0, 0, 0, 0, 0, 0, 0, 0);
        due(21, "ten times 99", x.queue(1, 0), 990);
        x.plan(0, 1);
        due(21, "DAY 999", x.queue(1, 0), 999);
        x.plan(0, 3);
        due(21, "still DAY 999", x.queue(1, 0), 999);
        planned(x, 0, 0, 0, 0, 0, 0, 0, 0, 0, 0, 0, 2);
        due(21, "DAY 1000", x.queue(1, 0), NONE);
        planned(x, 1, 4, 1, 5);
        due(21, "nothing lapses", x.queue(2, 1), 11);
        Counted lend = laid("o0,0,0,0;o1,0,0,0;h1,0;");
        planned(lend, 0, 0);
        planned(lend, 1, 1);
        due(21, "others as at first", lend.queue(3, 1), NONE);
    }

    private static void keeping() {
        Counted x = laid("o0,1,0,0;");
        x.person(0, 2, 10);
        x.plan(0, 0);
        due(22, "keep()", x.keep(), 1);
        rewrite(x, "o1,7,0,0;g1,20;");
        x.lay();
        x.person(0, 4, 20);
        x.plan(0, 1);
        x.plan(3, 5);
        due(22, "keep()", x.keep(), 2);
        due(22, "keep()", x.keep(), FULL);
        due(24, "count(4)", x.count(4), 2);
        rewrite(x, "o2,0,0,0;");
        x.lay();
        x.person(0, 0, 0);
        x.noPlan(0);
        x.noPlan(3);
        due(23, "restore()", x.restore(), 1);
        due(23, "LAID", x.office(1, 0), 7);
        due(23, "LAID", x.office(2, 0), NONE);
        due(23, "AGE", x.may(0, 0, 1), 1);
        due(23, "PLANS", x.count(3), 3);
        due(23, "THE TEXT is not KEPT", x.count(2), 9);
        due(23, "restore()", x.restore(), 0);
        due(23, "LAID", x.office(0, 0), 1);
        due(23, "LAID", x.count(0), 1);
        due(23, "PLANS", x.count(3), 1);
        due(23, "PLANS", x.judge(0, 3), 1);
        due(23, "restore()", x.restore(), NO);
        due(23, "PERSONS", x.person(0, 0, 0), 2);
        due(22, "keep()", x.keep(), 1);
        x.person(0, 9, 0);
        x.restore();
        due(23, "as KEPT last", x.person(0, 0, 0), 0);
    }

    private static void counting() {
        Counted x = laid("o0,0,0,0;a0,1;c0,1;o1,0,0,0;");
        x.write(3, 0);
        x.plan(1, 0);
        x.plan(2, 0);
        x.plan(2, 0);
        x.keep();
        int[] want = {4, 2, 31, 3, 1};
        for (int what = 0; what < 5; what++) {
            due(24, "count(" + what + ")", x.count(what), want[what]);
        }
        due(24, "count(-1)", x.count(-1), BAD);
        due(24, "count(5)", x.count(5), BAD);
    }

    private static void wildNumbers() {
        int[] wild = {Integer.MIN_VALUE, Integer.MIN_VALUE + 1, -4097, -33, -2, 32, 33, 4096, 65536, Integer.MAX_VALUE};
        Counted x = laid("o0,0,0,0;a0,1;");
        for (int n : wild) {
            due(2, "person", x.person(n, 0, 0) + x.person(0, Math.max(n, 4096), 0) + x.person(0, 0, Math.max(n, 121)), 3 * BAD);
            due(3, "write", x.write(n, n), BAD);
            due(7, "office", x.office(n, 0) + x.office(0, n), 2 * BAD);
            due(8, "may", x.may(n, 0, 0) + x.may(0, 0, n), 2 * BAD);
            due(9, "lack", x.lack(n, 0, 0) + x.lack(0, 0, n), 2 * BAD);
            due(10, "reach, back", x.reach(n) + x.back(n), 2 * BAD);
            due(11, "round", x.round(n, 0) + x.round(0, n), 2 * BAD);
            due(12, "ring", x.ring(n, 0), BAD);
            due(12, "ring i", x.ring(0, n), n < -1 ? BAD : NONE);
            due(14, "opened", x.opened(n, 0, 0) + x.opened(0, n, 0) + x.opened(0, 0, n), 3 * BAD);
            due(15, "cheapest", x.cheapest(n, 0, 0) + x.cheapest(0, n, 0) + x.cheapest(0, 0, n), 3 * BAD);
            due(16, "soonest", x.soonest(n, 0) + x.soonest(0, n), 2 * BAD);
            due(17, "plan", x.plan(n, 0) + x.plan(0, n) + x.noPlan(n), 3 * BAD);
            due(19, "judge", x.judge(n, 0) + x.judge(0, n), 2 * BAD);
            due(20, "mend", x.mend(n, 0, 0) + x.mend(1, n, 0), 2 * BAD);
            due(20, "mend i", x.mend(1, 0, n), n < -1 ? BAD : NONE);
            due(21, "queue", x.queue(n, 0) + x.queue(15, n), 2 * BAD);
            due(24, "count", x.count(n), BAD);
        }
    }

    public static void main(String[] args) {
        newObject();
        persons();
        writing();
        wiping();
        faults();
        laying();
        offices();
        mayHave();
        lacks();
        reached();
        rings();
        backs();
        backsLent();
        openings();
        openingsLent();
        cheap();
        soon();
        plans();
        judging();
        mending();
        mendingLowest();
        queueing();
        queueingLong();
        keeping();
        counting();
        wildNumbers();
        System.out.println(asked + " answers by hand, " + wrong + " wrong");
        if (wrong != 0) {
            System.exit(1);
        }
    }
}
