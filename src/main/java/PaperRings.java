/** Offices that give papers to those who have papers: see README.md and the document. */
public final class PaperRings {
    public static final int BAD = -1, NO = -2, FULL = -3, NONE = -4;

    private static final int PAPERS = 12;
    private static final int PERSONS = 4;
    private static final int ALL_PAPERS = 4095;
    private static final int ALL_PERSONS = 15;
    private static final int OLDEST = 120;
    private static final int LONGEST_TEXT = 300;
    private static final int LONGEST_PLAN = 12;
    private static final int MOST_KEPT = 2;
    private static final int LAST_DAY = 999;
    /** Later than any day: twelve papers take 12 times 99 days, and are good for 999 more. */
    private static final int FAR_DAY = 1000000;
    private static final int MOST_CHANGES = 3;

    private final Text text = new Text();
    private final Rules draft = new Rules();
    private final State now = new State();
    private final State[] kept = new State[MOST_KEPT];
    private int keptCount = 0;
    private final Together together = new Together();
    private final Ring circle = new Ring();
    private final Opening opening = new Opening();
    private final Purse purse = new Purse();
    private final Dates dates = new Dates();
    private final Hearing hearing = new Hearing();
    private final Mender mender = new Mender();
    private final Queues queues = new Queues();

    public PaperRings() {
        for (int i = 0; i < MOST_KEPT; i++) {
            kept[i] = new State();
        }
    }

    // ---- persons, offices

    public int person(int person, int set, int age) {
        if (!isPerson(person) || !isSet(set) || age < 0 || age > OLDEST) {
            return BAD;
        }
        int had = now.sets[person];
        now.sets[person] = set;
        now.ages[person] = age;
        return had;
    }

    public int write(int n, long v) {
        if (n < 1 || n > 8) {
            return BAD;
        }
        return text.append(n, v) ? text.length : FULL;
    }

    public int wipe() {
        int was = text.length;
        text.length = 0;
        return was;
    }

    public int fault() {
        return text.readInto(draft);
    }

    public int lay() {
        if (text.readInto(draft) != NONE) {
            return NO;
        }
        now.rules.copyFrom(draft);
        return now.rules.items;
    }

    public int office(int paper, int what) {
        if (!isPaper(paper) || what < 0 || what > 4) {
            return BAD;
        }
        return now.rules.hasOffice(paper) ? now.rules.told(paper, what) : NONE;
    }

    public int may(int person, int set, int paper) {
        if (!isPerson(person) || !isSet(set) || !isPaper(paper)) {
            return BAD;
        }
        return now.gives(person, set, paper) ? 1 : 0;
    }

    public int lack(int person, int set, int paper) {
        if (!isPerson(person) || !isSet(set) || !isPaper(paper)) {
            return BAD;
        }
        if (!now.rules.hasOffice(paper)) {
            return NONE;
        }
        return now.rules.lacking(paper, set, now.ages[person], now.lentTo(person));
    }

    // ---- reached

    public int reach(int person) {
        if (!isPerson(person)) {
            return BAD;
        }
        together.run(now);
        return together.has[person];
    }

    public int round(int person, int paper) {
        if (!isPerson(person) || !isPaper(paper)) {
            return BAD;
        }
        together.run(now);
        return together.rounds[person * PAPERS + paper];
    }

    public int ring(int person, int i) {
        if (!isPerson(person) || i < -1) {
            return BAD;
        }
        together.run(now);
        circle.find(now.rules, together.has[person]);
        if (circle.length == 0 || i >= circle.length) {
            return NONE;
        }
        return i < 0 ? circle.length : circle.papers[i];
    }

    public int back(int person) {
        if (!isPerson(person)) {
            return BAD;
        }
        together.run(now);
        int all = together.has[person];
        int gone = 0;
        for (int paper = 0; paper < PAPERS; paper++) {
            if (holds(all, paper) && !together.leadsTo(now, now.sets, person, all & ~bit(paper), paper)) {
                gone |= bit(paper);
            }
        }
        return gone;
    }

    public int opened(int person, int paper, int what) {
        if (!isPerson(person) || !isPaper(paper) || what < 0 || what > 2) {
            return BAD;
        }
        if (!opening.find(now, together, person, paper)) {
            return NONE;
        }
        if (what == 0) {
            return opening.least;
        }
        return what == 1 ? Integer.bitCount(opening.least) : opening.rivals;
    }

    // ---- cheap, soon, plans

    public int cheapest(int person, int paper, int what) {
        if (!isPerson(person) || !isPaper(paper) || what < 0 || what > 2) {
            return BAD;
        }
        if (!purse.find(now, person, paper)) {
            return NONE;
        }
        if (what == 0) {
            return purse.fees;
        }
        if (what == 1) {
            return purse.set;
        }
        // What is had already need not be got, so it is never what to get first.
        int had = now.sets[person];
        int given = now.rules.given(had, now.ages[person], now.lentTo(person));
        return lowest(purse.set & ~had & given);
    }

    public int soonest(int person, int paper) {
        if (!isPerson(person) || !isPaper(paper)) {
            return BAD;
        }
        return dates.dayOf(now, person, paper);
    }

    public int plan(int person, int paper) {
        if (!isPerson(person) || !isPaper(paper)) {
            return BAD;
        }
        int many = now.planned[person];
        if (many >= LONGEST_PLAN) {
            return FULL;
        }
        now.plans[person * LONGEST_PLAN + many] = paper;
        now.planned[person] = many + 1;
        return many + 1;
    }

    public int noPlan(int person) {
        if (!isPerson(person)) {
            return BAD;
        }
        int many = now.planned[person];
        now.planned[person] = 0;
        return many;
    }

    public int judge(int person, int what) {
        if (!isPerson(person) || what < 0 || what > 3) {
            return BAD;
        }
        hearing.run(now, person);
        switch (what) {
            case 0:
                return hearing.counter;
            case 1:
                return hearing.item;
            case 2:
                return hearing.counter == NONE ? hearing.day : NONE;
            default:
                return hearing.counter == NONE ? hearing.fees : NONE;
        }
    }

    public int mend(int persons, int paper, int i) {
        if (!isCrowd(persons) || !isPaper(paper) || i < -1) {
            return BAD;
        }
        mender.begin(now.rules, persons, paper);
        Mender.search(mender, now, 0);
        if (!mender.found || i >= mender.most) {
            return NONE;
        }
        return i < 0 ? mender.most : now.rules.item[mender.best[i]];
    }

    public int queue(int persons, int person) {
        if (!isCrowd(persons) || !isPerson(person) || !holds(persons, person)) {
            return BAD;
        }
        return queues.dayOf(now, persons, person);
    }

    public int keep() {
        if (keptCount >= MOST_KEPT) {
            return FULL;
        }
        kept[keptCount].copyFrom(now);
        keptCount++;
        return keptCount;
    }

    public int restore() {
        if (keptCount < 1) {
            return NO;
        }
        keptCount--;
        now.copyFrom(kept[keptCount]);
        return keptCount;
    }

    public int count(int what) {
        switch (what) {
            case 0:
                return now.rules.items;
            case 1:
                return Integer.bitCount(now.rules.offices);
            case 2:
                return text.length;
            case 3:
                return now.plannedByAll();
            case 4:
                return keptCount;
            default:
                return BAD;
        }
    }

    private static boolean isPerson(int person) {
        return person >= 0 && person < PERSONS;
    }

    private static boolean isPaper(int paper) {
        return paper >= 0 && paper < PAPERS;
    }

    private static boolean isSet(int set) {
        return set >= 0 && set <= ALL_PAPERS;
    }

    private static boolean isCrowd(int persons) {
        return persons >= 1 && persons <= ALL_PERSONS;
    }

    private static int bit(int number) {
        return 1 << number;
    }

    private static boolean holds(int set, int number) {
        return (set & 1 << number) != 0;
    }

    private static int lowest(int set) {
        for (int paper = 0; paper < PAPERS; paper++) {
            if (holds(set, paper)) {
                return paper;
            }
        }
        return NONE;
    }

    /** The bytes that were written, and how they are read item by item. */
    private static final class Text {
        private static final int MOST_NUMBERS = 8;

        int length = 0;
        private final int[] bytes = new int[LONGEST_TEXT];
        private final int[] numbers = new int[MOST_NUMBERS];
        private int many = 0;
        private int at = 0;

        boolean append(int n, long v) {
            if (n > LONGEST_TEXT - length) {
                return false;
            }
            for (int left = n - 1; left >= 0; left--) {
                bytes[length] = (int) (v >>> (8 * left)) & 255;
                length++;
            }
            return true;
        }

        /** Reads all into rules: the place of the first item that is not so, or NONE. */
        int readInto(Rules rules) {
            rules.clear();
            at = 0;
            for (int i = 0; i < LONGEST_TEXT && at < length; i++) {
                int start = at;
                at++;
                if (!readNumbers() || !rules.add(bytes[start], numbers, many)) {
                    return start;
                }
            }
            return NONE;
        }

        private boolean readNumbers() {
            many = 0;
            for (int i = 0; i < MOST_NUMBERS; i++) {
                if (!readNumber() || at >= length) {
                    return false;
                }
                int mark = bytes[at];
                at++;
                if (mark == ';') {
                    return true;
                }
                if (mark != ',') {
                    return false;
                }
            }
            return false;
        }

        private boolean readNumber() {
            int value = 0;
            int figures = 0;
            while (figures < 3 && at < length && isFigure(bytes[at])) {
                value = value * 10 + bytes[at] - '0';
                figures++;
                at++;
            }
            if (figures == 0 || many >= MOST_NUMBERS) {
                return false;
            }
            numbers[many] = value;
            many++;
            return true;
        }

        private static boolean isFigure(int sign) {
            return sign >= '0' && sign <= '9';
        }
    }

    /** Offices and the needs of their papers. */
    private static final class Rules {
        private static final int MOST_NEEDS = 60;
        private static final int TOO_MANY = 99;
        private static final int LAST_BIT = 31;

        int items = 0;
        int offices = 0;
        /** The papers that some need wants another person to have. */
        int lendable = 0;
        final int[] fee = new int[PAPERS];
        final int[] days = new int[PAPERS];
        final int[] good = new int[PAPERS];
        final int[] daily = new int[PAPERS];
        int needs = 0;
        final int[] item = new int[MOST_NEEDS];
        final int[] kind = new int[MOST_NEEDS];
        final int[] owner = new int[MOST_NEEDS];
        final int[] papers = new int[MOST_NEEDS];
        final int[] least = new int[MOST_NEEDS];
        /** How often a need's words are changed: only ever more than 0 while the mender tries. */
        final int[] eased = new int[MOST_NEEDS];

        void clear() {
            items = 0;
            offices = 0;
            lendable = 0;
            needs = 0;
        }

        void copyFrom(Rules other) {
            items = other.items;
            offices = other.offices;
            lendable = other.lendable;
            needs = other.needs;
            System.arraycopy(other.fee, 0, fee, 0, PAPERS);
            System.arraycopy(other.days, 0, days, 0, PAPERS);
            System.arraycopy(other.good, 0, good, 0, PAPERS);
            System.arraycopy(other.daily, 0, daily, 0, PAPERS);
            System.arraycopy(other.item, 0, item, 0, MOST_NEEDS);
            System.arraycopy(other.kind, 0, kind, 0, MOST_NEEDS);
            System.arraycopy(other.owner, 0, owner, 0, MOST_NEEDS);
            System.arraycopy(other.papers, 0, papers, 0, MOST_NEEDS);
            System.arraycopy(other.least, 0, least, 0, MOST_NEEDS);
        }

        boolean hasOffice(int paper) {
            return holds(offices, paper);
        }

        /** Adds an item; false if it is not as the document tells it. */
        boolean add(int letter, int[] numbers, int many) {
            if (many < 2 || !isPaper(numbers[0])) {
                return false;
            }
            boolean so = letter == 'o'
                    ? addOffice(numbers, many)
                    : hasOffice(numbers[0]) && addOfOffice(letter, numbers, many);
            if (so) {
                items++;
            }
            return so;
        }

        private boolean addOfOffice(int letter, int[] numbers, int many) {
            switch (letter) {
                case 'a':
                    return addAllOf(numbers, many);
                case 'n':
                    return addSomeOf(numbers, many);
                case 'g':
                    return many == 2 && numbers[1] <= OLDEST && addNeed('g', numbers[0], 0, numbers[1]);
                case 'h':
                    return many == 2 && addLent(numbers[0], numbers[1]);
                case 'c':
                    return many == 2 && addDaily(numbers[0], numbers[1]);
                default:
                    return false;
            }
        }

        private boolean addOffice(int[] numbers, int many) {
            int paper = numbers[0];
            if (many != 4 || hasOffice(paper) || numbers[2] > 99) {
                return false;
            }
            offices |= bit(paper);
            fee[paper] = numbers[1];
            days[paper] = numbers[2];
            good[paper] = numbers[3];
            daily[paper] = 0;
            return true;
        }

        private boolean addAllOf(int[] numbers, int many) {
            int set = setOf(numbers, 1, many);
            return set != 0 && many <= 7 && addNeed('a', numbers[0], set, Integer.bitCount(set));
        }

        private boolean addSomeOf(int[] numbers, int many) {
            int set = setOf(numbers, 2, many);
            int told = many - 2;
            int wanted = numbers[1];
            boolean unlike = Integer.bitCount(set) == told;
            return unlike && wanted >= 1 && told >= wanted && told <= 6 && addNeed('n', numbers[0], set, wanted);
        }

        /** The papers from a place on, as bits; 0 if a number is no paper. */
        private static int setOf(int[] numbers, int from, int many) {
            int set = 0;
            for (int i = from; i < many && i < numbers.length; i++) {
                if (!isPaper(numbers[i])) {
                    return 0;
                }
                set |= bit(numbers[i]);
            }
            return set;
        }

        private boolean addDaily(int paper, int persons) {
            // 0 stands for untold: the document's "1 without" must not hide that c is told once.
            if (persons < 1 || persons > 9 || daily[paper] != 0) {
                return false;
            }
            daily[paper] = persons;
            return true;
        }

        private boolean addLent(int paper, int lent) {
            if (!isPaper(lent) || !addNeed('h', paper, bit(lent), 1)) {
                return false;
            }
            lendable |= bit(lent);
            return true;
        }

        private boolean addNeed(int letter, int paper, int set, int wanted) {
            if (needs >= MOST_NEEDS) {
                return false;
            }
            item[needs] = items;
            kind[needs] = letter;
            owner[needs] = paper;
            papers[needs] = set;
            least[needs] = wanted;
            needs++;
            return true;
        }

        int takenDaily(int paper) {
            return Math.max(1, daily[paper]);
        }

        int told(int paper, int what) {
            switch (what) {
                case 0:
                    return fee[paper];
                case 1:
                    return days[paper];
                case 2:
                    return good[paper];
                case 3:
                    return takenDaily(paper);
                default:
                    return needsOf(paper);
            }
        }

        private int needsOf(int paper) {
            int many = 0;
            for (int need = 0; need < needs; need++) {
                if (owner[need] == paper) {
                    many++;
                }
            }
            return many;
        }

        boolean tellsPapers(int need) {
            return kind[need] == 'a' || kind[need] == 'n';
        }

        /** How many more changes of its words make a need hold: 0 if it holds, TOO_MANY if none do. */
        int shortage(int need, int set, int age, int lent) {
            int had = Integer.bitCount(set & papers[need]);
            switch (kind[need]) {
                case 'a':
                    if (had >= (eased[need] > 0 ? 1 : least[need])) {
                        return 0;
                    }
                    return had >= 1 ? 1 : TOO_MANY;
                case 'n':
                    return Math.max(0, least[need] - eased[need] - had);
                case 'g':
                    return eased[need] > 0 || age >= least[need] ? 0 : 1;
                default:
                    return eased[need] > 0 || (lent & papers[need]) != 0 ? 0 : 1;
            }
        }

        int shortageOf(int paper, int set, int age, int lent) {
            int changes = 0;
            for (int need = 0; need < needs; need++) {
                if (owner[need] == paper) {
                    changes += shortage(need, set, age, lent);
                }
            }
            return changes;
        }

        /** All papers that one may have by a set, an age and what others have. */
        int given(int set, int age, int lent) {
            int all = offices;
            for (int need = 0; need < needs; need++) {
                if (holds(all, owner[need]) && shortage(need, set, age, lent) > 0) {
                    all &= ~bit(owner[need]);
                }
            }
            return all;
        }

        int lacking(int paper, int set, int age, int lent) {
            int told = 0;
            for (int need = 0; need < needs; need++) {
                boolean seen = owner[need] == paper && item[need] <= LAST_BIT;
                if (seen && shortage(need, set, age, lent) > 0) {
                    told |= bit(item[need]);
                }
            }
            return told;
        }

        /** The item of the first need that does not hold, or NONE. */
        int firstLacking(int paper, int set, int age, int lent) {
            for (int need = 0; need < needs; need++) {
                if (owner[need] == paper && shortage(need, set, age, lent) > 0) {
                    return item[need];
                }
            }
            return NONE;
        }

        /**
         * A paper and all that can ever matter for it: the searches leave out the others.
         * What others have matters only where they get papers too (lending).
         */
        int tiedTo(int paper, boolean lending) {
            int tied = bit(paper);
            for (int step = 0; step < PAPERS; step++) {
                int before = tied;
                for (int need = 0; need < needs; need++) {
                    if ((lending || tellsPapers(need)) && holds(tied, owner[need])) {
                        tied |= papers[need];
                    }
                }
                if (tied == before) {
                    break;
                }
            }
            return tied;
        }
    }

    /** All that is kept: persons, plans, what is laid. */
    private static final class State {
        final int[] sets = new int[PERSONS];
        final int[] ages = new int[PERSONS];
        final int[] planned = new int[PERSONS];
        final int[] plans = new int[PERSONS * LONGEST_PLAN];
        final Rules rules = new Rules();

        void copyFrom(State other) {
            System.arraycopy(other.sets, 0, sets, 0, PERSONS);
            System.arraycopy(other.ages, 0, ages, 0, PERSONS);
            System.arraycopy(other.planned, 0, planned, 0, PERSONS);
            System.arraycopy(other.plans, 0, plans, 0, PERSONS * LONGEST_PLAN);
            rules.copyFrom(other.rules);
        }

        int plannedByAll() {
            int many = 0;
            for (int person = 0; person < PERSONS; person++) {
                many += planned[person];
            }
            return many;
        }

        int planOf(int person, int i) {
            return plans[person * LONGEST_PLAN + i];
        }

        /** What the others have at first. */
        int lentTo(int person) {
            return unionWithout(sets, person);
        }

        /** The item of the first need of a paper that does not hold by a set, or NONE. */
        int firstLacking(int person, int set, int paper) {
            return rules.firstLacking(paper, set, ages[person], lentTo(person));
        }

        boolean gives(int person, int set, int paper) {
            return rules.hasOffice(paper) && firstLacking(person, set, paper) == NONE;
        }

        /**
         * What a person comes to by itself, others as they are at first.
         * It ends with the wanted paper, since no caller looks further.
         */
        int alone(int person, int wanted) {
            int age = ages[person];
            int lent = lentTo(person);
            int has = sets[person];
            for (int step = 0; step < PAPERS && !holds(has, wanted); step++) {
                int more = has | rules.given(has, age, lent);
                if (more == has) {
                    break;
                }
                has = more;
            }
            return has;
        }
    }

    private static int unionWithout(int[] sets, int person) {
        int all = 0;
        for (int other = 0; other < PERSONS; other++) {
            if (other != person) {
                all |= sets[other];
            }
        }
        return all;
    }

    /** What all persons reach together, round by round. */
    private static final class Together {
        /** In each turn of all persons but the last a paper comes. */
        private static final int MOST_LOOKS = PERSONS * (PERSONS * PAPERS + 1);

        final int[] has = new int[PERSONS];
        final int[] rounds = new int[PERSONS * PAPERS];
        private final int[] more = new int[PERSONS];

        void run(State state) {
            for (int person = 0; person < PERSONS; person++) {
                has[person] = 0;
                for (int paper = 0; paper < PAPERS; paper++) {
                    rounds[person * PAPERS + paper] = NONE;
                }
                more[person] = state.sets[person];
            }
            boolean came = takeMore(0);
            for (int round = 1; came && round <= PERSONS * PAPERS + 1; round++) {
                for (int person = 0; person < PERSONS; person++) {
                    int lent = unionWithout(has, person);
                    more[person] = state.rules.given(has[person], state.ages[person], lent);
                }
                came = takeMore(round);
            }
        }

        /** Round 0 goes on even if nobody has anything: some papers need none. */
        private boolean takeMore(int round) {
            boolean came = round == 0;
            for (int person = 0; person < PERSONS; person++) {
                int fresh = more[person] & ~has[person];
                for (int paper = 0; paper < PAPERS; paper++) {
                    if (holds(fresh, paper)) {
                        rounds[person * PAPERS + paper] = round;
                        came = true;
                    }
                }
                has[person] |= fresh;
            }
            return came;
        }

        /**
         * Whether a person that begins with a set comes to a paper, the others beginning as told.
         * What is reached in the end does not hang on the rounds, so who can see nothing new is passed over.
         */
        boolean leadsTo(State state, int[] others, int person, int set, int paper) {
            System.arraycopy(others, 0, has, 0, PERSONS);
            has[person] = set;
            int stirred = ALL_PERSONS;
            int one = person;
            for (int look = 0; look < MOST_LOOKS && stirred != 0 && !holds(has[person], paper); look++) {
                if (holds(stirred, one)) {
                    int lent = unionWithout(has, one);
                    int fresh = state.rules.given(has[one], state.ages[one], lent) & ~has[one];
                    has[one] |= fresh;
                    if (fresh == 0) {
                        stirred &= ~bit(one);
                    } else if ((fresh & state.rules.lendable) != 0) {
                        stirred = ALL_PERSONS;
                    }
                }
                one = one + 1 < PERSONS ? one + 1 : 0;
            }
            return holds(has[person], paper);
        }
    }

    /** The shortest ring of papers that wait for one another. */
    private static final class Ring {
        int length;
        final int[] papers = new int[PAPERS];
        private final int[] waitsFor = new int[PAPERS];
        /** By steps: the papers from which so many steps lead to the first one. */
        private final int[] leading = new int[PAPERS + 1];

        void find(Rules rules, int reached) {
            tie(rules, reached);
            length = 0;
            for (int steps = 1; steps <= PAPERS; steps++) {
                for (int first = 0; first < PAPERS; first++) {
                    if (comesBack(first, steps)) {
                        length = steps;
                        walk(first);
                        return;
                    }
                }
            }
        }

        private void tie(Rules rules, int reached) {
            for (int paper = 0; paper < PAPERS; paper++) {
                waitsFor[paper] = 0;
            }
            for (int need = 0; need < rules.needs; need++) {
                int paper = rules.owner[need];
                boolean never = rules.tellsPapers(need) && !holds(reached, paper);
                if (never && rules.shortage(need, reached, 0, 0) > 0) {
                    waitsFor[paper] |= rules.papers[need] & ~reached;
                }
            }
        }

        private boolean comesBack(int first, int steps) {
            leading[0] = bit(first);
            for (int step = 1; step <= steps; step++) {
                leading[step] = 0;
                for (int paper = 0; paper < PAPERS; paper++) {
                    if ((waitsFor[paper] & leading[step - 1]) != 0) {
                        leading[step] |= bit(paper);
                    }
                }
            }
            return holds(leading[steps], first);
        }

        private void walk(int first) {
            papers[0] = first;
            for (int i = 1; i < length; i++) {
                int next = lowest(waitsFor[papers[i - 1]] & leading[length - i]);
                papers[i] = Math.max(0, next);
            }
        }
    }

    /** The fewest papers from outside by which one comes to a paper, the others getting papers too. */
    private static final class Opening {
        private static final int MOST_SHUT = 64;

        int least;
        int rivals;
        /** What all reach without a gift: whatever is given, they come to that, so each try begins there. */
        private final int[] reached = new int[PERSONS];
        /** Sets that do not open: no part of one opens either, and need not be tried. */
        private final int[] shut = new int[MOST_SHUT];
        private int shutMany = 0;

        boolean find(State state, Together together, int person, int paper) {
            together.run(state);
            System.arraycopy(together.has, 0, reached, 0, PERSONS);
            least = 0;
            rivals = 1;
            if (holds(reached[person], paper)) {
                return true;
            }
            // What is reached anyhow and what does not matter is in no smallest gift.
            int gifts = state.rules.tiedTo(paper, true) & ~reached[person] & ~bit(paper);
            if (!together.leadsTo(state, reached, person, reached[person] | gifts, paper)) {
                return false;
            }
            rivals = 0;
            shutMany = 0;
            for (int many = 1; many <= PAPERS && rivals == 0; many++) {
                tryGifts(state, together, person, paper, gifts, many);
            }
            return rivals > 0;
        }

        private void tryGifts(State state, Together together, int person, int paper, int gifts, int many) {
            int gift = 0;
            for (int i = 0; i <= ALL_PAPERS; i++) {
                // The next higher set within gifts; behind the last one it is 0 again.
                gift = (gift - gifts) & gifts;
                if (gift == 0) {
                    break;
                }
                if (Integer.bitCount(gift) != many || isShut(gift)) {
                    continue;
                }
                if (together.leadsTo(state, reached, person, reached[person] | gift, paper)) {
                    least = rivals == 0 ? gift : least;
                    rivals++;
                } else if (shutMany < MOST_SHUT) {
                    shut[shutMany] = widened(state, together, person, paper, gifts);
                    shutMany++;
                }
            }
        }

        private boolean isShut(int gift) {
            for (int i = 0; i < shutMany; i++) {
                if ((gift & ~shut[i]) == 0) {
                    return true;
                }
            }
            return false;
        }

        /** What the try before came to, with as many gifts more as still do not open. */
        private int widened(State state, Together together, int person, int paper, int gifts) {
            int wide = together.has[person];
            for (int more = 0; more < PAPERS; more++) {
                boolean other = holds(gifts & ~wide, more);
                if (other && !together.leadsTo(state, reached, person, wide | bit(more), paper)) {
                    wide = together.has[person];
                }
            }
            return wide;
        }
    }

    /** The set with the least fees that holds a paper. */
    private static final class Purse {
        int set;
        int fees;
        private final int[] come = new int[(ALL_PAPERS + 1) / 32];

        boolean find(State state, int person, int paper) {
            int first = state.sets[person];
            int lent = state.lentTo(person);
            int matters = state.rules.tiedTo(paper, false);
            forget();
            note(first);
            boolean found = false;
            // A set is a higher number than each of its parts, so all ways to it are known when it is looked at.
            for (int had = first; had <= ALL_PAPERS; had++) {
                if (!isNoted(had)) {
                    continue;
                }
                int cost = feesOf(state.rules, had & ~first);
                if (found && cost >= fees) {
                    continue;
                }
                if (holds(had, paper)) {
                    found = true;
                    set = had;
                    fees = cost;
                } else {
                    noteNext(had, state.rules.given(had, state.ages[person], lent) & matters);
                }
            }
            return found;
        }

        private void forget() {
            for (int i = 0; i < come.length; i++) {
                come[i] = 0;
            }
        }

        private void note(int had) {
            come[had >> 5] |= 1 << (had & 31);
        }

        private boolean isNoted(int had) {
            return (come[had >> 5] & (1 << (had & 31))) != 0;
        }

        private void noteNext(int had, int given) {
            for (int paper = 0; paper < PAPERS; paper++) {
                if (holds(given, paper)) {
                    note(had | bit(paper));
                }
            }
        }

        private static int feesOf(Rules rules, int bought) {
            int sum = 0;
            for (int paper = 0; paper < PAPERS; paper++) {
                if (holds(bought, paper)) {
                    sum += rules.fee[paper];
                }
            }
            return sum;
        }
    }

    /** The days on which papers come at the soonest. */
    private static final class Dates {
        private final int[] comes = new int[PAPERS];

        int dayOf(State state, int person, int paper) {
            int lent = state.lentTo(person);
            int has = state.sets[person];
            int asked = has;
            int day = 0;
            for (int step = 0; step <= PAPERS; step++) {
                if (holds(has, paper)) {
                    return day;
                }
                int fresh = state.rules.given(has, state.ages[person], lent) & ~asked;
                ask(state.rules, fresh, day);
                asked |= fresh;
                int waiting = asked & ~has;
                if (waiting == 0) {
                    return NONE;
                }
                day = nextDay(waiting);
                has |= comingOn(day, waiting);
            }
            return NONE;
        }

        private void ask(Rules rules, int fresh, int day) {
            for (int paper = 0; paper < PAPERS; paper++) {
                if (holds(fresh, paper)) {
                    comes[paper] = day + rules.days[paper];
                }
            }
        }

        private int nextDay(int waiting) {
            int day = FAR_DAY;
            for (int paper = 0; paper < PAPERS; paper++) {
                if (holds(waiting, paper)) {
                    day = Math.min(day, comes[paper]);
                }
            }
            return day;
        }

        private int comingOn(int day, int waiting) {
            int set = 0;
            for (int paper = 0; paper < PAPERS; paper++) {
                if (holds(waiting, paper) && comes[paper] == day) {
                    set |= bit(paper);
                }
            }
            return set;
        }
    }

    /** A plan looked at counter by counter. */
    private static final class Hearing {
        private static final int NOT_HAD = -1;

        int counter;
        int item;
        int day;
        int fees;
        private final int[] lastGood = new int[PAPERS];

        void run(State state, int person) {
            begin(state.sets[person]);
            for (int i = 0; i < state.planned[person] && counter == NONE; i++) {
                int paper = state.planOf(person, i);
                if (!state.rules.hasOffice(paper)) {
                    counter = i;
                    return;
                }
                item = state.firstLacking(person, goodNow(), paper);
                if (item != NONE) {
                    counter = i;
                    return;
                }
                take(state.rules, paper);
            }
        }

        private void begin(int set) {
            counter = NONE;
            item = NONE;
            day = 0;
            fees = 0;
            for (int paper = 0; paper < PAPERS; paper++) {
                lastGood[paper] = holds(set, paper) ? FAR_DAY : NOT_HAD;
            }
        }

        private int goodNow() {
            int set = 0;
            for (int paper = 0; paper < PAPERS; paper++) {
                if (lastGood[paper] >= day) {
                    set |= bit(paper);
                }
            }
            return set;
        }

        private void take(Rules rules, int paper) {
            day += rules.days[paper];
            fees += rules.fee[paper];
            int until = rules.good[paper] == 0 ? FAR_DAY : day + rules.good[paper] - 1;
            // One that was had at first stays good for ever, though it is got again.
            lastGood[paper] = Math.max(lastGood[paper], until);
        }
    }

    /**
     * The fewest changes of words. Somebody who stands outside with what it comes to can only come on if some
     * paper's needs are all made to hold by that; so trying each such paper in turn finds every smallest way.
     */
    private static final class Mender {
        boolean found;
        int most;
        final int[] best = new int[MOST_CHANGES];
        private final int[] changed = new int[MOST_CHANGES];
        private final int[] sorted = new int[MOST_CHANGES];
        private int changes;
        private int persons;
        private int wanted;
        private int matters;
        private int outside;
        private int comesTo;

        void begin(Rules rules, int crowd, int paper) {
            persons = crowd;
            wanted = paper;
            matters = rules.tiedTo(paper, false) & rules.offices;
            found = false;
            most = MOST_CHANGES;
            changes = 0;
        }

        private static void search(Mender mender, State state, int depth) {
            if (!mender.findOutside(state)) {
                mender.record();
                return;
            }
            if (depth >= MOST_CHANGES) {
                return;
            }
            int person = mender.outside;
            int has = mender.comesTo;
            for (int paper = 0; paper < PAPERS; paper++) {
                int before = mender.changes;
                if (holds(mender.matters & ~has, paper) && mender.change(state, person, has, paper)) {
                    search(mender, state, depth + 1);
                    mender.undo(state.rules, before);
                }
            }
        }

        /** Looks for one of the persons that does not come to the paper. */
        private boolean findOutside(State state) {
            for (int person = 0; person < PERSONS; person++) {
                if (holds(persons, person)) {
                    int has = state.alone(person, wanted);
                    if (!holds(has, wanted)) {
                        outside = person;
                        comesTo = has;
                        return true;
                    }
                }
            }
            return false;
        }

        /** Changes what one with a set lacks for a paper; false, and nothing changed, if that is too much. */
        private boolean change(State state, int person, int has, int paper) {
            Rules rules = state.rules;
            int age = state.ages[person];
            int lent = state.lentTo(person);
            if (rules.shortageOf(paper, has, age, lent) > most - changes) {
                return false;
            }
            for (int need = 0; need < rules.needs; need++) {
                if (rules.owner[need] == paper) {
                    changeNeed(rules, need, rules.shortage(need, has, age, lent));
                }
            }
            return true;
        }

        private void changeNeed(Rules rules, int need, int times) {
            for (int i = 0; i < times && changes < MOST_CHANGES; i++) {
                rules.eased[need]++;
                changed[changes] = need;
                changes++;
            }
        }

        private void undo(Rules rules, int before) {
            while (changes > before && changes > 0) {
                changes--;
                rules.eased[changed[changes]]--;
            }
        }

        /** Keeps what is changed now, if it is fewer or of lower items than the best so far. */
        private void record() {
            sortChanged();
            if (found && changes >= most && !isLower()) {
                return;
            }
            found = true;
            most = changes;
            for (int i = 0; i < changes; i++) {
                best[i] = sorted[i];
            }
        }

        private void sortChanged() {
            for (int i = 0; i < changes; i++) {
                int place = i;
                while (place > 0 && sorted[place - 1] > changed[i]) {
                    sorted[place] = sorted[place - 1];
                    place--;
                }
                sorted[place] = changed[i];
            }
        }

        private boolean isLower() {
            for (int i = 0; i < changes; i++) {
                if (sorted[i] != best[i]) {
                    return sorted[i] < best[i];
                }
            }
            return false;
        }
    }

    /** Persons at counters that take so many a day. */
    private static final class Queues {
        private final int[] has = new int[PERSONS];
        private final int[] got = new int[PERSONS];
        private final int[] free = new int[PERSONS];
        private final int[] taken = new int[PAPERS];
        private boolean refused;

        /** The day by which one of the persons is done, or NONE. */
        int dayOf(State state, int persons, int asked) {
            begin(state);
            for (int day = 0; day <= LAST_DAY; day++) {
                nobodyTaken();
                for (int person = 0; person < PERSONS; person++) {
                    refused = false;
                    if (holds(persons, person) && free[person] <= day) {
                        serve(state, person, day);
                    }
                    // What one has does not change while it is refused, so that is for good.
                    if (person == asked && refused) {
                        return NONE;
                    }
                }
                if (got[asked] >= state.planned[asked]) {
                    return free[asked] <= LAST_DAY ? free[asked] : NONE;
                }
            }
            return NONE;
        }

        private void begin(State state) {
            for (int person = 0; person < PERSONS; person++) {
                has[person] = state.sets[person];
                got[person] = 0;
                free[person] = 0;
            }
        }

        private void nobodyTaken() {
            for (int paper = 0; paper < PAPERS; paper++) {
                taken[paper] = 0;
            }
        }

        private void serve(State state, int person, int day) {
            Rules rules = state.rules;
            for (int i = got[person]; i < state.planned[person] && free[person] <= day; i++) {
                int paper = state.planOf(person, i);
                if (!state.gives(person, has[person], paper)) {
                    refused = true;
                    return;
                }
                if (taken[paper] >= rules.takenDaily(paper)) {
                    return;
                }
                taken[paper]++;
                got[person]++;
                // Nobody looks at what it has before it is free again, so it may have it now.
                has[person] |= bit(paper);
                free[person] = day + rules.days[paper];
            }
        }
    }
}
