import java.util.ArrayList;
import java.util.Arrays;
import java.util.HashSet;
import java.util.List;
import java.util.Random;
import java.util.Set;

/** Random runs of calls against a slow second program that follows the document word by word. */
public final class OracleTest {
    private static final int BAD = -1, NO = -2, FULL = -3, NONE = -4;

    private static final class Item {
        char letter;
        int[] numbers;
        int paper;

        boolean isNeed() {
            return letter == 'a' || letter == 'n' || letter == 'g' || letter == 'h';
        }

        List<Integer> papers() {
            List<Integer> list = new ArrayList<>();
            int from = letter == 'a' ? 1 : letter == 'n' ? 2 : numbers.length;
            for (int i = from; i < numbers.length; i++) {
                list.add(numbers[i]);
            }
            return list;
        }
    }

    /** Changes of words: by item how many. */
    private static boolean holds(Item it, Set<Integer> has, int age, List<Set<Integer>> others, int changes) {
        switch (it.letter) {
            case 'a':
                if (changes > 0) {
                    return it.papers().stream().anyMatch(has::contains);
                }
                return has.containsAll(it.papers());
            case 'n':
                return it.papers().stream().filter(has::contains).count() >= it.numbers[1] - changes;
            case 'g':
                return changes > 0 || age >= it.numbers[1];
            default:
                return changes > 0 || others.stream().anyMatch(o -> o.contains(it.numbers[1]));
        }
    }

    private static Set<Integer> setOf(int bits) {
        Set<Integer> set = new HashSet<>();
        for (int i = 0; i < 12; i++) {
            if ((bits >> i & 1) == 1) {
                set.add(i);
            }
        }
        return set;
    }

    private static int bitsOf(Set<Integer> set) {
        int bits = 0;
        for (int i : set) {
            bits |= 1 << i;
        }
        return bits;
    }

    private static final class World {
        int[] sets = new int[4];
        int[] ages = new int[4];
        List<List<Integer>> plans = new ArrayList<>();
        List<Item> items = new ArrayList<>();

        World() {
            for (int i = 0; i < 4; i++) {
                plans.add(new ArrayList<>());
            }
        }

        World copy() {
            World w = new World();
            w.sets = sets.clone();
            w.ages = ages.clone();
            for (int i = 0; i < 4; i++) {
                w.plans.get(i).addAll(plans.get(i));
            }
            w.items.addAll(items);
            return w;
        }

        Item office(int paper) {
            for (Item it : items) {
                if (it.letter == 'o' && it.paper == paper) {
                    return it;
                }
            }
            return null;
        }

        int perDay(int paper) {
            for (Item it : items) {
                if (it.letter == 'c' && it.paper == paper) {
                    return it.numbers[1];
                }
            }
            return 1;
        }

        List<Integer> lacking(int paper, Set<Integer> has, int age, List<Set<Integer>> others, int[] changes) {
            List<Integer> list = new ArrayList<>();
            for (int i = 0; i < items.size(); i++) {
                Item it = items.get(i);
                int c = changes == null ? 0 : changes[i];
                if (it.isNeed() && it.paper == paper && !holds(it, has, age, others, c)) {
                    list.add(i);
                }
            }
            return list;
        }

        List<Set<Integer>> othersAtFirst(int person) {
            List<Set<Integer>> list = new ArrayList<>();
            for (int i = 0; i < 4; i++) {
                if (i != person) {
                    list.add(setOf(sets[i]));
                }
            }
            return list;
        }

        boolean mayHave(int person, Set<Integer> has, int paper, int[] changes) {
            return office(paper) != null
                && lacking(paper, has, ages[person], othersAtFirst(person), changes).isEmpty();
        }

        /** One paper after the other, others as they are at first. */
        Set<Integer> byItself(int person, Set<Integer> from, int[] changes) {
            Set<Integer> has = new HashSet<>(from);
            boolean came = true;
            while (came) {
                came = false;
                for (int p = 0; p < 12; p++) {
                    if (!has.contains(p) && mayHave(person, has, p, changes)) {
                        has.add(p);
                        came = true;
                    }
                }
            }
            return has;
        }

        /** The rounds of all persons' papers, if they begin with these sets. */
        int[][] roundsOfAll(int[] first) {
            int[][] rounds = new int[4][12];
            for (int i = 0; i < 4; i++) {
                for (int p = 0; p < 12; p++) {
                    rounds[i][p] = (first[i] >> p & 1) == 1 ? 0 : NONE;
                }
            }
            for (int round = 1;; round++) {
                List<Set<Integer>> before = new ArrayList<>();
                for (int i = 0; i < 4; i++) {
                    Set<Integer> s = new HashSet<>();
                    for (int p = 0; p < 12; p++) {
                        if (rounds[i][p] != NONE) {
                            s.add(p);
                        }
                    }
                    before.add(s);
                }
                boolean came = false;
                for (int i = 0; i < 4; i++) {
                    List<Set<Integer>> others = new ArrayList<>(before);
                    others.remove(i);
                    for (int p = 0; p < 12; p++) {
                        if (rounds[i][p] == NONE && office(p) != null
                            && lacking(p, before.get(i), ages[i], others, null).isEmpty()) {
                            rounds[i][p] = round;
                            came = true;
                        }
                    }
                }
                if (!came) {
                    return rounds;
                }
            }
        }

        Set<Integer> reached(int person) {
            return reached(person, sets[person]);
        }

        /** What a person reaches together with the others, if it begins with a set, the others as they are at first. */
        Set<Integer> reached(int person, int set) {
            int[] first = sets.clone();
            first[person] = set;
            int[] r = roundsOfAll(first)[person];
            Set<Integer> s = new HashSet<>();
            for (int p = 0; p < 12; p++) {
                if (r[p] != NONE) {
                    s.add(p);
                }
            }
            return s;
        }

        List<Integer> ring(int person) {
            Set<Integer> reached = reached(person);
            boolean[][] edge = new boolean[12][12];
            for (Item it : items) {
                if ((it.letter == 'a' || it.letter == 'n') && !reached.contains(it.paper)
                    && !holds(it, reached, 0, List.of(), 0)) {
                    for (int q : it.papers()) {
                        edge[it.paper][q] = !reached.contains(q) || edge[it.paper][q];
                    }
                }
            }
            for (int length = 1; length <= 12; length++) {
                for (int first = 0; first < 12; first++) {
                    List<Integer> path = new ArrayList<>(List.of(first));
                    if (!reached.contains(first) && walk(edge, path, length)) {
                        return path;
                    }
                }
            }
            return null;
        }

        private boolean walk(boolean[][] edge, List<Integer> path, int length) {
            int last = path.get(path.size() - 1);
            if (path.size() == length) {
                return edge[last][path.get(0)];
            }
            for (int q = 0; q < 12; q++) {
                if (edge[last][q] && !path.contains(q)) {
                    path.add(q);
                    if (walk(edge, path, length)) {
                        return true;
                    }
                    path.remove(path.size() - 1);
                }
            }
            return false;
        }

        int back(int person) {
            Set<Integer> all = reached(person);
            int bits = 0;
            for (int p : all) {
                if (!reached(person, bitsOf(all) & ~(1 << p)).contains(p)) {
                    bits |= 1 << p;
                }
            }
            return bits;
        }

        /** The least set, how many papers, how many sets; null: none. */
        int[] opened(int person, int paper) {
            for (int n = 0; n <= 12; n++) {
                int least = 0, many = 0;
                for (int gift = 4095; gift >= 0; gift--) {
                    if ((gift >> paper & 1) == 0 && Integer.bitCount(gift) == n
                        && reached(person, sets[person] | gift).contains(paper)) {
                        least = gift;
                        many++;
                    }
                }
                if (many > 0) {
                    return new int[] {least, n, many};
                }
            }
            return null;
        }

        int[] cheapest(int person, int paper) {
            int best = -1, fees = 0;
            for (int s = 0; s < 4096; s++) {
                if ((s & sets[person]) != sets[person] || (s >> paper & 1) == 0 || !comesTo(person, s)) {
                    continue;
                }
                int sum = 0;
                for (int p : setOf(s & ~sets[person])) {
                    sum += office(p).numbers[1];
                }
                if (best < 0 || sum < fees) {
                    best = s;
                    fees = sum;
                }
            }
            if (best < 0) {
                return null;
            }
            int first = NONE;
            Set<Integer> at = setOf(sets[person]);
            for (int p = 11; p >= 0; p--) {
                if ((best >> p & 1) == 1 && !at.contains(p) && mayHave(person, at, p, null)) {
                    first = p;
                }
            }
            return new int[] {fees, best, first};
        }

        private boolean comesTo(int person, int goal) {
            Set<Integer> has = setOf(sets[person]);
            boolean came = true;
            while (came) {
                came = false;
                for (int p : setOf(goal)) {
                    if (!has.contains(p) && mayHave(person, has, p, null)) {
                        has.add(p);
                        came = true;
                    }
                }
            }
            return bitsOf(has) == goal;
        }

        int soonest(int person, int paper) {
            int far = 1000000;
            int[] day = new int[12];
            for (int p = 0; p < 12; p++) {
                day[p] = (sets[person] >> p & 1) == 1 ? 0 : far;
            }
            for (int pass = 0; pass < 13; pass++) {
                for (int p = 0; p < 12; p++) {
                    Item o = office(p);
                    if (o == null) {
                        continue;
                    }
                    int ready = 0;
                    for (Item it : items) {
                        if (it.isNeed() && it.paper == p) {
                            ready = Math.max(ready, comes(it, day, person, far));
                        }
                    }
                    if (ready < far) {
                        day[p] = Math.min(day[p], ready + o.numbers[2]);
                    }
                }
            }
            return day[paper] >= far ? NONE : day[paper];
        }

        private int comes(Item it, int[] day, int person, int far) {
            if (it.letter == 'g' || it.letter == 'h') {
                return holds(it, Set.of(), ages[person], othersAtFirst(person), 0) ? 0 : far;
            }
            int[] days = it.papers().stream().mapToInt(q -> day[q]).sorted().toArray();
            return it.letter == 'a' ? days[days.length - 1] : days[it.numbers[1] - 1];
        }

        /** The counter, its need, the day, the fees. */
        int[] judge(int person) {
            int day = 0, fees = 0;
            int[] gotOn = new int[12];
            Arrays.fill(gotOn, -1);
            List<Integer> plan = plans.get(person);
            for (int i = 0; i < plan.size(); i++) {
                int p = plan.get(i);
                Set<Integer> good = setOf(sets[person]);
                for (int q = 0; q < 12; q++) {
                    if (gotOn[q] >= 0) {
                        int l = office(q).numbers[3];
                        if (l == 0 || day <= gotOn[q] + l - 1) {
                            good.add(q);
                        }
                    }
                }
                if (office(p) == null) {
                    return new int[] {i, NONE, NONE, NONE};
                }
                List<Integer> lack = lacking(p, good, ages[person], othersAtFirst(person), null);
                if (!lack.isEmpty()) {
                    return new int[] {i, lack.get(0), NONE, NONE};
                }
                day += office(p).numbers[2];
                fees += office(p).numbers[1];
                gotOn[p] = day;
            }
            return new int[] {NONE, NONE, day, fees};
        }

        /** The items that are changed; null: none. */
        List<Integer> mended(int persons, int paper) {
            for (int many = 0; many <= 3; many++) {
                List<Integer> chosen = choose(new ArrayList<>(), new int[items.size()], many, persons, paper);
                if (chosen != null) {
                    return chosen;
                }
            }
            return null;
        }

        private List<Integer> choose(List<Integer> so, int[] changes, int many, int persons, int paper) {
            if (so.size() == many) {
                for (int person : setOf(persons)) {
                    if (!byItself(person, setOf(sets[person]), changes).contains(paper)) {
                        return null;
                    }
                }
                return so;
            }
            int from = so.isEmpty() ? 0 : so.get(so.size() - 1);
            for (int i = from; i < items.size(); i++) {
                Item it = items.get(i);
                int most = it.letter == 'n' ? it.numbers[1] : it.isNeed() ? 1 : 0;
                if (changes[i] < most) {
                    changes[i]++;
                    so.add(i);
                    List<Integer> found = choose(so, changes, many, persons, paper);
                    if (found != null) {
                        return found;
                    }
                    so.remove(so.size() - 1);
                    changes[i]--;
                }
            }
            return null;
        }

        int queue(int persons, int asked) {
            int[] next = new int[4];
            int[] waits = new int[4];
            int[] brings = {NONE, NONE, NONE, NONE};
            int[] done = {NONE, NONE, NONE, NONE};
            List<Set<Integer>> has = new ArrayList<>();
            for (int i = 0; i < 4; i++) {
                has.add(setOf(sets[i]));
            }
            for (int day = 0; day <= 999; day++) {
                int[] taken = new int[12];
                for (int i = 0; i < 4; i++) {
                    if ((persons >> i & 1) == 0 || done[i] != NONE) {
                        continue;
                    }
                    if (waits[i] > 0) {
                        waits[i]--;
                        if (waits[i] > 0) {
                            continue;
                        }
                        has.get(i).add(brings[i]);
                    }
                    while (next[i] < plans.get(i).size()) {
                        int p = plans.get(i).get(next[i]);
                        if (!mayHave(i, has.get(i), p, null) || taken[p] >= perDay(p)) {
                            break;
                        }
                        taken[p]++;
                        next[i]++;
                        int d = office(p).numbers[2];
                        if (d > 0) {
                            waits[i] = d;
                            brings[i] = p;
                            break;
                        }
                        has.get(i).add(p);
                    }
                    if (next[i] == plans.get(i).size() && waits[i] == 0) {
                        done[i] = day;
                    }
                }
            }
            return done[asked];
        }
    }

    /** Items of a text up to the first fault; the fault's place, or NONE, comes first in the answer. */
    private static int read(String text, List<Item> into) {
        int at = 0;
        while (at < text.length()) {
            int end = text.indexOf(';', at);
            if (end < 0) {
                return at;
            }
            String one = text.substring(at, end);
            if (!one.matches("[oanghc][0-9]{1,3}(,[0-9]{1,3})*")) {
                return at;
            }
            Item it = new Item();
            it.letter = one.charAt(0);
            it.numbers = Arrays.stream(one.substring(1).split(",")).mapToInt(Integer::parseInt).toArray();
            it.paper = it.numbers[0];
            if (!isSo(it, into)) {
                return at;
            }
            into.add(it);
            at = end + 1;
        }
        return NONE;
    }

    private static boolean isSo(Item it, List<Item> ahead) {
        int n = it.numbers.length;
        if (it.paper > 11) {
            return false;
        }
        boolean told = ahead.stream().anyMatch(x -> x.letter == 'o' && x.paper == it.paper);
        if (it.letter == 'o') {
            return !told && n == 4 && it.numbers[2] <= 99;
        }
        if (!told || it.papers().stream().anyMatch(q -> q > 11)) {
            return false;
        }
        switch (it.letter) {
            case 'a':
                return n >= 2 && n <= 7;
            case 'n':
                return n >= 3 && n - 2 <= 6 && it.numbers[1] >= 1 && it.numbers[1] <= n - 2
                    && new HashSet<>(it.papers()).size() == n - 2;
            case 'g':
                return n == 2 && it.numbers[1] <= 120;
            case 'h':
                return n == 2 && it.numbers[1] <= 11;
            default:
                return n == 2 && it.numbers[1] >= 1 && it.numbers[1] <= 9
                    && ahead.stream().noneMatch(x -> x.letter == 'c' && x.paper == it.paper);
        }
    }

    private static int wrong = 0;
    private static long calls = 0;

    private static void due(String call, int got, int want, StringBuilder story) {
        calls++;
        story.append(call).append(" = ").append(got).append('\n');
        if (got != want) {
            wrong++;
            if (wrong <= 3) {
                System.out.println(story + "due is " + want + "\n");
            }
        }
    }

    private static String randomText(Random r, int papers, int most) {
        StringBuilder b = new StringBuilder();
        List<Integer> told = new ArrayList<>();
        for (int p = 0; p < papers; p++) {
            if (r.nextInt(8) != 0) {
                int d = r.nextInt(4) == 0 ? r.nextInt(100) : r.nextInt(4);
                b.append("o").append(p).append(',').append(r.nextInt(r.nextBoolean() ? 4 : 1000)).append(',')
                    .append(d).append(',').append(r.nextBoolean() ? r.nextInt(8) : r.nextInt(200)).append(';');
                told.add(p);
            }
        }
        // Needs of the next paper make long rings, which are rare otherwise.
        boolean chain = r.nextInt(6) == 0;
        // Ways that go through several persons and back are rare too.
        boolean lending = r.nextInt(3) == 0;
        int many = r.nextInt(most + 1);
        for (int i = 0; i < many && !told.isEmpty(); i++) {
            int p = told.get(r.nextInt(told.size()));
            String item = chain ? "a" + p + "," + (p + 1 + r.nextInt(2)) % papers + ";" : randomItem(r, p, papers);
            if (lending && r.nextInt(3) == 0) {
                item = "h" + p + "," + (chain ? p + 1 : r.nextInt(papers)) % papers + ";";
            }
            if (b.length() + item.length() <= 300) {
                b.append(item);
            }
        }
        return b.toString();
    }

    private static String randomItem(Random r, int p, int papers) {
        StringBuilder b = new StringBuilder();
        switch (r.nextInt(9)) {
            case 0: case 1: case 2:
                b.append('a').append(p);
                for (int k = 1 + r.nextInt(r.nextInt(4) == 0 ? 6 : 2); k > 0; k--) {
                    b.append(',').append(r.nextInt(papers));
                }
                break;
            case 3: case 4: case 5:
                List<Integer> of = new ArrayList<>();
                for (int k = 1 + r.nextInt(6); k > 0; k--) {
                    int q = r.nextInt(papers);
                    if (!of.contains(q)) {
                        of.add(q);
                    }
                }
                b.append('n').append(p).append(',').append(1 + r.nextInt(of.size()));
                for (int q : of) {
                    b.append(',').append(q);
                }
                break;
            case 6:
                b.append('g').append(p).append(',').append(r.nextInt(60));
                break;
            case 7:
                b.append('h').append(p).append(',').append(r.nextInt(papers));
                break;
            default:
                b.append('c').append(p).append(',').append(1 + r.nextInt(3));
                break;
        }
        return b.append(';').toString();
    }

    private static String spoil(Random r, String text) {
        if (text.isEmpty()) {
            return "x";
        }
        StringBuilder b = new StringBuilder(text);
        int at = r.nextInt(b.length());
        switch (r.nextInt(3)) {
            case 0:
                b.deleteCharAt(at);
                break;
            case 1:
                b.setCharAt(at, "oanghc,;0123456789x".charAt(r.nextInt(19)));
                break;
            default:
                b.insert(at, "oanghc,;0123456789 ".charAt(r.nextInt(19)));
                break;
        }
        return b.length() > 300 ? b.substring(0, 300) : b.toString();
    }

    private static void writeAll(Counted x, String text, StringBuilder story) {
        int at = 0;
        while (at < text.length()) {
            int n = Math.min(8, text.length() - at);
            long v = 0;
            for (int i = 0; i < n; i++) {
                v = v << 8 | text.charAt(at + i);
            }
            at += n;
            due("write(" + n + ", " + v + ")", x.write(n, v), at, story);
        }
        story.append(text).append('\n');
    }

    private static void oneRun(long seed) {
        Random r = new Random(seed);
        StringBuilder story = new StringBuilder("seed " + seed + "\n");
        Counted x = new Counted();
        World w = new World();
        List<World> kept = new ArrayList<>();
        int papers = r.nextInt(3) == 0 ? 12 : 3 + r.nextInt(6);
        int lastLength = 0;
        for (int turn = 0; turn < 3; turn++) {
            String text = randomText(r, papers, r.nextBoolean() ? 14 : 40);
            boolean spoilt = r.nextInt(5) == 0;
            if (spoilt) {
                text = spoil(r, text);
            }
            due("wipe()", x.wipe(), lastLength, story);
            writeAll(x, text, story);
            lastLength = text.length();
            List<Item> items = new ArrayList<>();
            int fault = read(text, items);
            due("fault()", x.fault(), fault, story);
            due("lay()", x.lay(), fault == NONE ? items.size() : NO, story);
            if (fault == NONE) {
                w.items = items;
            }
            for (int i = 0; i < 4; i++) {
                if (r.nextInt(4) != 0) {
                    int set = r.nextInt(3) == 0 ? 0 : 1 << r.nextInt(papers) | (r.nextInt(3) == 0 ? r.nextInt(1 << papers) : 0);
                    int age = r.nextInt(60);
                    due("person(" + i + ", " + set + ", " + age + ")", x.person(i, set, age), w.sets[i], story);
                    w.sets[i] = set;
                    w.ages[i] = age;
                }
            }
            for (int k = 0; k < 10; k++) {
                w = change(x, w, kept, r, papers, story);
            }
            for (int k = 0; k < 25; k++) {
                ask(x, w, r, papers, story);
            }
            due("count(0)", x.count(0), w.items.size(), story);
            due("count(1)", x.count(1), (int) w.items.stream().filter(it -> it.letter == 'o').count(), story);
            due("count(2)", x.count(2), text.length(), story);
            due("count(3)", x.count(3), w.plans.stream().mapToInt(List::size).sum(), story);
            due("count(4)", x.count(4), kept.size(), story);
        }
    }

    private static World change(Counted x, World w, List<World> kept, Random r, int papers, StringBuilder story) {
        int person = r.nextInt(4);
        switch (r.nextInt(9)) {
            case 0:
                if (r.nextBoolean()) {
                    due("noPlan(" + person + ")", x.noPlan(person), w.plans.get(person).size(), story);
                    w.plans.get(person).clear();
                }
                break;
            case 1:
                boolean full = kept.size() == 2;
                due("keep()", x.keep(), full ? FULL : kept.size() + 1, story);
                if (!full) {
                    kept.add(w.copy());
                }
                break;
            case 2:
                due("restore()", x.restore(), kept.isEmpty() ? NO : kept.size() - 1, story);
                if (!kept.isEmpty()) {
                    return kept.remove(kept.size() - 1);
                }
                break;
            default:
                int from = w.sets[person];
                int paper = r.nextInt(papers);
                // Mostly one that it may come to, or plans would hardly ever go far.
                Set<Integer> can = w.byItself(person, setOf(from), null);
                for (int t = 0; t < 20 && !can.contains(paper); t++) {
                    paper = r.nextInt(papers);
                }
                boolean isFull = w.plans.get(person).size() == 12;
                due("plan(" + person + ", " + paper + ")", x.plan(person, paper),
                    isFull ? FULL : w.plans.get(person).size() + 1, story);
                if (!isFull) {
                    w.plans.get(person).add(paper);
                }
                break;
        }
        return w;
    }

    private static void ask(Counted x, World w, Random r, int papers, StringBuilder story) {
        int i = r.nextInt(4);
        int p = r.nextInt(papers);
        int set = r.nextInt(1 << papers);
        int what = r.nextInt(5);
        switch (r.nextInt(15)) {
            case 0:
                Item o = w.office(p);
                int want = o == null ? NONE : what < 3 ? o.numbers[what + 1] : what == 3 ? w.perDay(p)
                    : (int) w.items.stream().filter(it -> it.isNeed() && it.paper == o.paper).count();
                due("office(" + p + ", " + what + ")", x.office(p, what), want, story);
                break;
            case 1:
                due("may(" + i + ", " + set + ", " + p + ")", x.may(i, set, p),
                    w.mayHave(i, setOf(set), p, null) ? 1 : 0, story);
                break;
            case 2:
                int bits = 0;
                for (int n : w.lacking(p, setOf(set), w.ages[i], w.othersAtFirst(i), null)) {
                    bits |= n < 32 ? 1 << n : 0;
                }
                due("lack(" + i + ", " + set + ", " + p + ")", x.lack(i, set, p), w.office(p) == null ? NONE : bits, story);
                break;
            case 3:
                due("reach(" + i + ")", x.reach(i), bitsOf(w.reached(i)), story);
                break;
            case 4:
                due("round(" + i + ", " + p + ")", x.round(i, p), w.roundsOfAll(w.sets)[i][p], story);
                break;
            case 5: case 6:
                List<Integer> ring = w.ring(i);
                due("ring(" + i + ", -1)", x.ring(i, -1), ring == null ? NONE : ring.size(), story);
                for (int k = 0; k < 4; k++) {
                    due("ring(" + i + ", " + k + ")", x.ring(i, k), ring == null || k >= ring.size() ? NONE : ring.get(k), story);
                }
                break;
            case 7:
                due("back(" + i + ")", x.back(i), w.back(i), story);
                break;
            case 8:
                int[] opened = w.opened(i, p);
                for (int k = 0; k < 3; k++) {
                    due("opened(" + i + ", " + p + ", " + k + ")", x.opened(i, p, k), opened == null ? NONE : opened[k], story);
                }
                break;
            case 9:
                int[] cheap = w.cheapest(i, p);
                for (int k = 0; k < 3; k++) {
                    due("cheapest(" + i + ", " + p + ", " + k + ")", x.cheapest(i, p, k), cheap == null ? NONE : cheap[k], story);
                }
                break;
            case 10:
                due("soonest(" + i + ", " + p + ")", x.soonest(i, p), w.soonest(i, p), story);
                break;
            case 11: case 12:
                int[] judged = w.judge(i);
                for (int k = 0; k < 4; k++) {
                    due("judge(" + i + ", " + k + ")", x.judge(i, k), judged[k], story);
                }
                break;
            case 13:
                int persons = 1 + r.nextInt(15);
                List<Integer> mended = w.mended(persons, p);
                due("mend(" + persons + ", " + p + ", -1)", x.mend(persons, p, -1), mended == null ? NONE : mended.size(), story);
                for (int k = 0; k < 4; k++) {
                    due("mend(" + persons + ", " + p + ", " + k + ")", x.mend(persons, p, k),
                        mended == null || k >= mended.size() ? NONE : mended.get(k), story);
                }
                break;
            default:
                int crowd = 1 + r.nextInt(15);
                int wanted = (crowd >> i & 1) == 0 ? BAD : w.queue(crowd, i);
                due("queue(" + crowd + ", " + i + ")", x.queue(crowd, i), wanted, story);
                break;
        }
    }

    public static void main(String[] args) {
        int runs = args.length > 1 ? Integer.parseInt(args[1]) : 400;
        for (int seed = 1; seed <= runs; seed++) {
            oneRun(seed);
        }
        System.out.println(calls + " calls against the oracle, " + wrong + " wrong");
        if (wrong != 0) {
            System.exit(1);
        }
    }
}
