import java.lang.reflect.Method;
import java.util.ArrayList;
import java.util.Comparator;
import java.util.List;
import java.util.Set;
import java.util.TreeSet;
import java.util.function.IntUnaryOperator;

/** What the tests of single sentences share. A test is a static method promiseNN_whatTheSentenceSays. */
abstract class Checks {
    static final int BAD = -1, NO = -2, FULL = -3, NONE = -4;
    static final int ALL = 4095;

    private static String test = "";
    private static int asked = 0;
    private static int wrong = 0;

    static void due(String told, int got, int want) {
        asked++;
        if (got != want) {
            wrong++;
            System.out.println(test + ": " + told + " answered " + got + ", due is " + want);
        }
    }

    static void same(String told, List<Integer> got, List<Integer> want) {
        int at = 0;
        while (at < got.size() && at < want.size() && got.get(at).equals(want.get(at))) {
            at++;
        }
        due(told + ", answers alike", at, Math.max(got.size(), want.size()));
    }

    /** Numbers that look like low or high to code that shifts, masks, narrows or adds without looking. */
    private static Set<Integer> outside(int low, int high) {
        Set<Integer> all = new TreeSet<>(List.of(low - 1, high + 1, low - 2, high + 2, Integer.MIN_VALUE, Integer.MAX_VALUE));
        for (int bits : new int[] {5, 6, 8, 12, 16, 31}) {
            for (int edge : new int[] {low, high}) {
                all.add(edge + (1 << bits));
                all.add(edge - (1 << bits));
            }
        }
        all.removeIf(n -> n >= low && n <= high);
        return all;
    }

    /** The lowest and the highest number are taken, the next ones on both sides and others outside are BAD. */
    static void edges(String told, int low, int high, IntUnaryOperator call) {
        due(told + " " + low + " is taken", call.applyAsInt(low) == BAD ? 0 : 1, 1);
        due(told + " " + high + " is taken", call.applyAsInt(high) == BAD ? 0 : 1, 1);
        for (int n : outside(low, high)) {
            due(told + " " + n, call.applyAsInt(n), BAD);
        }
    }

    static Counted laid(String text) {
        Counted x = new Counted();
        x.writeAll(text);
        due("lay() of a text without fault", Math.min(0, x.lay()), 0);
        return x;
    }

    static void planned(Counted x, int person, int... papers) {
        x.noPlan(person);
        for (int paper : papers) {
            x.plan(person, paper);
        }
    }

    /** Offices for papers 0 to many less 1 with the same fee, days and how long it is good. */
    static String offices(int many, String rest) {
        StringBuilder b = new StringBuilder();
        for (int paper = 0; paper < many; paper++) {
            b.append('o').append(paper).append(',').append(rest).append(';');
        }
        return b.toString();
    }

    /** Each paper from 1 on needs the one below it. */
    static String chain(int many) {
        StringBuilder b = new StringBuilder();
        for (int paper = 1; paper < many; paper++) {
            b.append('a').append(paper).append(',').append(paper - 1).append(';');
        }
        return b.toString();
    }

    static void runAll(Class<?> tests, int firstPromise, int lastPromise) throws Exception {
        List<Method> found = new ArrayList<>();
        for (Method m : tests.getDeclaredMethods()) {
            if (m.getName().matches("promise[0-9][0-9]_\\w+")) {
                found.add(m);
            }
        }
        found.sort(Comparator.comparing(Method::getName));
        Set<Integer> promises = new TreeSet<>();
        for (Method m : found) {
            test = m.getName();
            m.invoke(null);
            promises.add(Integer.parseInt(test.substring(7, 9)));
        }
        test = tests.getName();
        for (int promise = firstPromise; promise <= lastPromise; promise++) {
            due("a test of promise " + promise, promises.contains(promise) ? 1 : 0, 1);
        }
        System.out.println(found.size() + " tests, " + asked + " answers, " + wrong + " wrong");
        if (wrong != 0) {
            System.exit(1);
        }
    }
}
