import java.util.NoSuchElementException;

/** A town of made people who choose; ../shared/DOC.md says what each call promises. */
public final class Madeham {
    private static final int MOST_PLACES = 5;
    private static final int MOST_MINUTES = 60;
    private static final int NO_WAY = 999;
    private static final int GROUPS = 3;
    private static final int MOST_PEOPLE = 20;
    private static final int TRAITS = 4;
    private static final int TOP_TRAIT = 99;
    private static final int HIGH_TRAIT = 50;
    private static final int FIRST_TRAIT_PURPOSE = 100;
    private static final int MOST_RULES = 6;
    private static final int TOP_LIMIT = 99;
    private static final int TOP_AMOUNT = 9;
    private static final int TOP_CHANCE = 100;
    private static final char ADDS = 'a';
    private static final char INFLUENCES = 'i';
    private static final char TRAVELS = 't';
    private static final char AT_ONCE = 'a';
    private static final char IN_TURN = 't';
    private static final int TOP_SEED = 999999;
    private static final int TOP_PURPOSE = 199;
    private static final int MOST_DAYS = 60;
    private static final int MOST_DAYS_A_CALL = 30;
    private static final int SURVEY_PURPOSE = 150;
    private static final int TOP_EACH = 9;
    private static final int MOST_FACTORS = 3;
    private static final int MOST_FIGURES = 10;
    private static final int TOP_MEAN = 9900;
    private static final int SEEN_TRAIT = 0;
    private static final int NONE = -1;

    private final Places places;
    private final People people;
    private final Rules rules;
    private final Figures figures;
    private final Run now;
    private final Run thought;
    private final Run without;

    public Madeham() {
        places = new Places();
        people = new People();
        rules = new Rules();
        figures = new Figures();
        now = new Run(places, people, rules);
        thought = new Run(places, people, rules);
        without = new Run(places, people, rules);
    }

    // ---- places, people

    public int addPlace() throws UnsupportedOperationException, IllegalStateException {
        needNoDay();
        if (places.count >= MOST_PLACES) {
            throw new IllegalStateException("there are 5 places");
        }
        return places.append();
    }

    public int link(int place, int other, int minutes)
            throws IndexOutOfBoundsException, IllegalArgumentException, UnsupportedOperationException {
        needPlace(place);
        needPlace(other);
        needUnlike(place, other);
        needRange(minutes, 0, MOST_MINUTES);
        needNoDay();
        return places.join(place, other, minutes);
    }

    public int way(int place, int other) throws IndexOutOfBoundsException {
        needPlace(place);
        needPlace(other);
        return places.between(place, other);
    }

    public int setGroup(int group, int many) throws IllegalArgumentException {
        needRange(group, 0, GROUPS - 1);
        needRange(many, 0, MOST_PEOPLE);
        int before = people.groupMargin[group];
        people.groupMargin[group] = many;
        return before;
    }

    public int setHomes(int place, int many) throws IndexOutOfBoundsException, IllegalArgumentException {
        needPlace(place);
        needRange(many, 0, MOST_PEOPLE);
        int before = people.homeMargin[place];
        people.homeMargin[place] = many;
        return before;
    }

    public int make() throws UnsupportedOperationException {
        needNoDay();
        if (!people.marginsFit()) {
            throw new UnsupportedOperationException("the margins do not fit");
        }
        people.settle(rules.seed);
        now.begin();
        return people.count;
    }

    public int cell(int group, int place) throws IllegalArgumentException, IndexOutOfBoundsException {
        needRange(group, 0, GROUPS - 1);
        needPlace(place);
        return people.manyOf(group, place);
    }

    public int home(int person) throws IndexOutOfBoundsException {
        needPerson(person);
        return people.homes[person];
    }

    public int groupOf(int person) throws IndexOutOfBoundsException {
        needPerson(person);
        return people.groups[person];
    }

    public int setWork(int person, int place) throws IndexOutOfBoundsException, UnsupportedOperationException {
        needPerson(person);
        needPlace(place);
        needNoDay();
        int before = people.works[person];
        people.works[person] = place;
        return before;
    }

    public boolean tie(int person, int other, boolean is)
            throws IndexOutOfBoundsException, IllegalArgumentException, UnsupportedOperationException {
        needPerson(person);
        needPerson(other);
        needUnlike(person, other);
        needNoDay();
        boolean before = people.isTied(person, other);
        people.bind(person, other, is);
        return before;
    }

    public int setTrait(int person, int trait, int value)
            throws IndexOutOfBoundsException, IllegalArgumentException, UnsupportedOperationException {
        needPerson(person);
        needTrait(trait);
        needRange(value, 0, TOP_TRAIT);
        needNoDay();
        int at = person * TRAITS + trait;
        int before = people.firstTraits[at];
        people.firstTraits[at] = value;
        now.begin();
        return before;
    }

    // ---- rules, draws

    public int addRule(char kind, int trait, int guard, int limit, int amount, int chance)
            throws IllegalArgumentException, UnsupportedOperationException, IllegalStateException {
        if (kind != ADDS && kind != INFLUENCES && kind != TRAVELS) {
            throw new IllegalArgumentException("there is no such kind");
        }
        needTrait(trait);
        needTrait(guard);
        needRange(limit, 0, TOP_LIMIT);
        needRange(amount, -TOP_AMOUNT, TOP_AMOUNT);
        needRange(chance, 0, TOP_CHANCE);
        needNoDay();
        if (rules.count >= MOST_RULES) {
            throw new IllegalStateException("there are 6 rules");
        }
        return rules.append(kind, trait, guard, limit, amount, chance);
    }

    public boolean setOn(int rule, boolean is) throws IndexOutOfBoundsException, UnsupportedOperationException {
        needRule(rule);
        needNoDay();
        boolean before = rules.isOn(rule);
        rules.turn(rule, is);
        return before;
    }

    public int setAmount(int rule, int amount)
            throws IndexOutOfBoundsException, IllegalArgumentException, UnsupportedOperationException {
        needRule(rule);
        needRange(amount, -TOP_AMOUNT, TOP_AMOUNT);
        needNoDay();
        int before = rules.amounts[rule];
        rules.amounts[rule] = amount;
        return before;
    }

    public char setMode(char mode) throws IllegalArgumentException, UnsupportedOperationException {
        if (mode != AT_ONCE && mode != IN_TURN) {
            throw new IllegalArgumentException("there is no such mode");
        }
        needNoDay();
        char before = rules.mode;
        rules.mode = mode;
        return before;
    }

    public int setSeed(int seed) throws IllegalArgumentException, UnsupportedOperationException {
        needRange(seed, 1, TOP_SEED);
        needNoDay();
        int before = rules.seed;
        rules.seed = seed;
        return before;
    }

    public int draw(int person, int day, int purpose) throws IllegalArgumentException {
        needRange(person, 0, MOST_PEOPLE - 1);
        needRange(day, 0, MOST_DAYS);
        needRange(purpose, 0, TOP_PURPOSE);
        return drawn(rules.seed, person, day, purpose);
    }

    // ---- days

    public int pass(int days)
            throws IllegalArgumentException, UnsupportedOperationException, IllegalStateException {
        needDays(days);
        needPeople();
        if (now.day + days > MOST_DAYS) {
            throw new IllegalStateException("more than 60 days would go by");
        }
        if (now.day == 0) {
            // rules may have been told since this run began, and they count from the first day on
            now.begin();
        }
        now.goOn(days);
        return now.day;
    }

    public int reset() {
        int before = now.day;
        now.begin();
        return before;
    }

    public int today() {
        return now.day;
    }

    public int trait(int person, int trait) throws IndexOutOfBoundsException, IllegalArgumentException {
        needPerson(person);
        needTrait(trait);
        return now.valueOf(person, trait);
    }

    public int mean(int trait) throws IllegalArgumentException, UnsupportedOperationException {
        needTrait(trait);
        needPeople();
        return now.meanOf(trait);
    }

    public int groupMean(int group, int trait) throws IllegalArgumentException, NoSuchElementException {
        needRange(group, 0, GROUPS - 1);
        needTrait(trait);
        int sum = 0;
        int many = 0;
        for (int person = 0; person < people.count; person++) {
            if (people.groups[person] == group) {
                sum += now.valueOf(person, trait);
                many++;
            }
        }
        if (many == 0) {
            throw new NoSuchElementException("nobody is of the group");
        }
        return sum * 100 / many;
    }

    public int survey(int trait, int each, int refusal) throws IllegalArgumentException, NoSuchElementException {
        needTrait(trait);
        needRange(each, 1, TOP_EACH);
        needRange(refusal, 0, TOP_CHANCE);
        int sum = 0;
        int many = 0;
        for (int person = 0; person < people.count; person += each) {
            if (drawn(rules.seed, person, now.day, SURVEY_PURPOSE) >= refusal) {
                sum += now.valueOf(person, trait);
                many++;
            }
        }
        if (many == 0) {
            throw new NoSuchElementException("nobody answers");
        }
        return sum * 100 / many;
    }

    // ---- runs in thought

    public int effect(int factors, int some, int days, int trait)
            throws IndexOutOfBoundsException, IllegalArgumentException, UnsupportedOperationException {
        needDesign(factors, some, days, trait);
        return contrast(factors, some, days, trait, false);
    }

    public int halfEffect(int factors, int some, int days, int trait)
            throws IndexOutOfBoundsException, IllegalArgumentException, UnsupportedOperationException {
        needDesign(factors, some, days, trait);
        return contrast(factors, some, days, trait, true);
    }

    public int tell(int day, int mean, boolean isTest) throws IllegalArgumentException, IllegalStateException {
        needRange(day, 1, MOST_DAYS);
        needRange(mean, 0, TOP_MEAN);
        if (figures.count >= MOST_FIGURES) {
            throw new IllegalStateException("10 figures are told");
        }
        return figures.append(day, mean, isTest);
    }

    public long error(int rule, int amount, boolean isTest)
            throws IndexOutOfBoundsException, IllegalArgumentException, UnsupportedOperationException {
        needRule(rule);
        needRange(amount, -TOP_AMOUNT, TOP_AMOUNT);
        needPeople();
        return errorOf(rule, amount, isTest);
    }

    public int fit(int rule)
            throws IndexOutOfBoundsException, UnsupportedOperationException, NoSuchElementException {
        needRule(rule);
        needPeople();
        if (figures.lastDay(false) == 0) {
            throw new NoSuchElementException("nothing is told that is not for testing");
        }
        int best = -TOP_AMOUNT;
        long leastError = errorOf(rule, best, false);
        for (int amount = best + 1; amount <= TOP_AMOUNT; amount++) {
            long amountError = errorOf(rule, amount, false);
            if (amountError < leastError) {
                leastError = amountError;
                best = amount;
            }
        }
        return best;
    }

    public int cause(int rule, int trait)
            throws IndexOutOfBoundsException, IllegalArgumentException, UnsupportedOperationException {
        needRule(rule);
        needTrait(trait);
        needPeople();
        without.begin();
        without.leaveOut(rule);
        without.goOn(now.day);
        return now.meanOf(trait) - without.meanOf(trait);
    }

    public int causeFor(int rule, int person, int trait)
            throws IndexOutOfBoundsException, IllegalArgumentException {
        needRule(rule);
        needPerson(person);
        needTrait(trait);
        without.begin();
        without.spare(rule, person);
        without.goOn(now.day);
        return now.valueOf(person, trait) - without.valueOf(person, trait);
    }

    public int differs(int rule)
            throws IndexOutOfBoundsException, UnsupportedOperationException, NoSuchElementException {
        needRule(rule);
        needPeople();
        thought.begin();
        without.begin();
        without.leaveOut(rule);
        for (int day = 1; day <= now.day; day++) {
            thought.goOn(1);
            without.goOn(1);
            int person = thought.firstUnlike(without);
            if (person != NONE) {
                return 100 * day + person;
            }
        }
        throw new NoSuchElementException("the runs do not differ");
    }

    public int least(int rule, int trait, int goal)
            throws IndexOutOfBoundsException, IllegalArgumentException, UnsupportedOperationException,
            NoSuchElementException {
        needRule(rule);
        needTrait(trait);
        needRange(goal, 0, TOP_MEAN);
        needPeople();
        for (int amount = -TOP_AMOUNT; amount <= TOP_AMOUNT; amount++) {
            thought.begin();
            thought.takeAmount(rule, amount);
            thought.goOn(now.day);
            if (thought.meanOf(trait) >= goal) {
                return amount;
            }
        }
        throw new NoSuchElementException("no amount reaches the goal");
    }

    public long hash() {
        return rules.fold(people.fold(places.fold(7)));
    }

    // ---- figures

    public long checksum() {
        long sum = 7;
        for (int at = 0; at < people.count * TRAITS; at++) {
            sum = 31 * sum + now.traits[at];
        }
        return 31 * sum + now.day;
    }

    public int shareBits(int trait) throws IllegalArgumentException, ArithmeticException {
        needTrait(trait);
        needDivisor();
        int many = 0;
        for (int person = 0; person < people.count; person++) {
            if (now.valueOf(person, trait) >= HIGH_TRAIT) {
                many++;
            }
        }
        return bitsOf((float) many / (float) people.count);
    }

    public double meanWay() throws ArithmeticException {
        needDivisor();
        int sum = 0;
        for (int person = 0; person < people.count; person++) {
            sum += places.between(people.homes[person], people.works[person]);
        }
        return (double) sum / (double) people.count;
    }

    public boolean isSound() {
        return people.fitMargins() && people.tiesMatch() && places.waysAreShortest()
                && now.isInRange() && isRepeatable();
    }

    // ---- what calls need, in the documented order of their exceptions

    private void needPlace(int place) {
        if (place < 0 || place >= places.count) {
            throw new IndexOutOfBoundsException("there is no such place");
        }
    }

    private void needPerson(int person) {
        if (person < 0 || person >= people.count) {
            throw new IndexOutOfBoundsException("there is no such person");
        }
    }

    private void needRule(int rule) {
        if (rule < 0 || rule >= rules.count) {
            throw new IndexOutOfBoundsException("there is no such rule");
        }
    }

    private static void needRange(int number, int low, int high) {
        if (number < low || number > high) {
            throw new IllegalArgumentException("a number is out of range");
        }
    }

    private static void needTrait(int trait) {
        needRange(trait, 0, TRAITS - 1);
    }

    private static void needDays(int days) {
        needRange(days, 1, MOST_DAYS_A_CALL);
    }

    private static void needUnlike(int one, int other) {
        if (one == other) {
            throw new IllegalArgumentException("both are the same");
        }
    }

    private void needNoDay() {
        if (now.day > 0) {
            throw new UnsupportedOperationException("a day went by");
        }
    }

    private void needPeople() {
        if (people.count == 0) {
            throw new UnsupportedOperationException("there are no people");
        }
    }

    private void needDivisor() {
        if (people.count == 0) {
            throw new ArithmeticException("there are no people");
        }
    }

    private void needDesign(int factors, int some, int days, int trait) {
        if ((factors | some) >>> rules.count != 0) {
            throw new IndexOutOfBoundsException("a bit is that of no rule");
        }
        if (factors == 0 || Integer.bitCount(factors) > MOST_FACTORS) {
            throw new IllegalArgumentException("there are no factors, or more than 3");
        }
        if (some == 0 || (some & ~factors) != 0) {
            throw new IllegalArgumentException("some are none of the factors, or there are none");
        }
        needDays(days);
        needTrait(trait);
        needPeople();
    }

    // ---- what several calls share

    private static int drawn(int seed, int person, int day, int purpose) {
        long sum = 31L * seed + 7919L * person + 104729L * day + 1299709L * purpose;
        return (int) (sum * 48271 % 2147483647 % 100);
    }

    private static int held(int value) {
        return Math.max(0, Math.min(TOP_TRAIT, value));
    }

    private static boolean isOdd(int bits) {
        return (Integer.bitCount(bits) & 1) == 1;
    }

    private int contrast(int factors, int some, int days, int trait, boolean isHalf) {
        int sum = 0;
        for (int off = 0; off < 1 << MOST_RULES; off++) {
            boolean isRun = (off & ~factors) == 0 && !(isHalf && isOdd(off));
            if (isRun) {
                thought.begin();
                thought.onBits = (rules.onBits | factors) & ~off;
                thought.goOn(days);
                int traitSum = thought.sumOf(trait);
                sum += isOdd(off & some) ? -traitSum : traitSum;
            }
        }
        return sum;
    }

    private long errorOf(int rule, int amount, boolean isTest) {
        thought.begin();
        thought.takeAmount(rule, amount);
        int last = figures.lastDay(isTest);
        long sum = 0;
        for (int day = 1; day <= last; day++) {
            thought.goOn(1);
            sum += figures.squares(day, isTest, thought.meanOf(SEEN_TRAIT));
        }
        return sum;
    }

    private boolean isRepeatable() {
        thought.begin();
        thought.goOn(now.day);
        return thought.firstUnlike(now) == NONE;
    }

    /** The library's Float is not in the language, so the parts of a share of 0 to 1 are told here. */
    private static int bitsOf(float share) {
        if (share <= 0f) {
            return 0;
        }
        float mantissa = share;
        int exponent = 127;
        for (int step = 0; step < 127 && mantissa < 1f; step++) {
            mantissa = mantissa * 2f;
            exponent--;
        }
        return (exponent << 23) + (int) ((mantissa - 1f) * 8388608f);
    }

    /** The places, their links and their ways; pairs are kept as rows of five. */
    static final class Places {
        private final int[] minutes = new int[MOST_PLACES * MOST_PLACES];
        final int[] ways = new int[MOST_PLACES * MOST_PLACES];
        int count;

        int append() {
            int place = count;
            count++;
            findWays();
            return place;
        }

        int join(int place, int other, int newMinutes) {
            int before = minutes[place * MOST_PLACES + other];
            minutes[place * MOST_PLACES + other] = newMinutes;
            minutes[other * MOST_PLACES + place] = newMinutes;
            findWays();
            return before;
        }

        int between(int place, int other) {
            return ways[place * MOST_PLACES + other];
        }

        boolean waysAreShortest() {
            for (int by = 0; by < count; by++) {
                for (int place = 0; place < count; place++) {
                    for (int other = 0; other < count; other++) {
                        if (between(place, other) > between(place, by) + between(by, other)) {
                            return false;
                        }
                    }
                }
            }
            return true;
        }

        long fold(long first) {
            long sum = first;
            for (int place = 0; place < count; place++) {
                for (int other = place + 1; other < count; other++) {
                    sum = 31 * sum + minutes[place * MOST_PLACES + other];
                }
            }
            return sum;
        }

        private void findWays() {
            for (int place = 0; place < count; place++) {
                for (int other = 0; other < count; other++) {
                    int direct = minutes[place * MOST_PLACES + other];
                    int way = direct > 0 ? direct : NO_WAY;
                    ways[place * MOST_PLACES + other] = place == other ? 0 : way;
                }
            }
            for (int by = 0; by < count; by++) {
                shortenBy(by);
            }
        }

        private void shortenBy(int by) {
            for (int place = 0; place < count; place++) {
                for (int other = 0; other < count; other++) {
                    int around = between(place, by) + between(by, other);
                    if (around < between(place, other)) {
                        ways[place * MOST_PLACES + other] = around;
                    }
                }
            }
        }
    }

    /** The people as told, with the margins of now and those by which they were made. */
    static final class People {
        final int[] groupMargin = new int[GROUPS];
        final int[] homeMargin = new int[MOST_PLACES];
        private final int[] madeGroups = new int[GROUPS];
        private final int[] madeHomes = new int[MOST_PLACES];
        private final int[] groupsLeft = new int[GROUPS];
        private final int[] homesLeft = new int[MOST_PLACES];
        private final int[] cells = new int[GROUPS * MOST_PLACES];
        final int[] groups = new int[MOST_PEOPLE];
        final int[] homes = new int[MOST_PEOPLE];
        final int[] works = new int[MOST_PEOPLE];
        final int[] firstTraits = new int[MOST_PEOPLE * TRAITS];
        /** A bit for each person with whom there is a tie. */
        final int[] tied = new int[MOST_PEOPLE];
        int count;

        boolean marginsFit() {
            int sum = sumOver(groupMargin);
            return sum == sumOver(homeMargin) && sum >= 1 && sum <= MOST_PEOPLE;
        }

        void settle(int seed) {
            System.arraycopy(groupMargin, 0, madeGroups, 0, GROUPS);
            System.arraycopy(homeMargin, 0, madeHomes, 0, MOST_PLACES);
            shareOut(sumOver(groupMargin));
            fillUp();
            count = 0;
            for (int group = 0; group < GROUPS; group++) {
                for (int place = 0; place < MOST_PLACES; place++) {
                    moveIn(group, place, seed);
                }
            }
        }

        int manyOf(int group, int place) {
            int many = 0;
            for (int person = 0; person < count; person++) {
                if (groups[person] == group && homes[person] == place) {
                    many++;
                }
            }
            return many;
        }

        boolean isTied(int person, int other) {
            return (tied[person] >> other & 1) == 1;
        }

        void bind(int person, int other, boolean is) {
            if (is) {
                tied[person] |= 1 << other;
                tied[other] |= 1 << person;
            } else {
                tied[person] &= ~(1 << other);
                tied[other] &= ~(1 << person);
            }
        }

        boolean fitMargins() {
            for (int group = 0; group < GROUPS; group++) {
                int many = 0;
                for (int place = 0; place < MOST_PLACES; place++) {
                    many += manyOf(group, place);
                }
                if (many != madeGroups[group]) {
                    return false;
                }
            }
            for (int place = 0; place < MOST_PLACES; place++) {
                int many = 0;
                for (int group = 0; group < GROUPS; group++) {
                    many += manyOf(group, place);
                }
                if (many != madeHomes[place]) {
                    return false;
                }
            }
            return true;
        }

        boolean tiesMatch() {
            for (int person = 0; person < count; person++) {
                for (int other = 0; other < count; other++) {
                    if (isTied(person, other) != isTied(other, person)) {
                        return false;
                    }
                }
            }
            return true;
        }

        long fold(long first) {
            long sum = first;
            for (int person = 0; person < count; person++) {
                sum = 31 * sum + homes[person];
                sum = 31 * sum + works[person];
                for (int trait = 0; trait < TRAITS; trait++) {
                    sum = 31 * sum + firstTraits[person * TRAITS + trait];
                }
                sum = 31 * sum + tied[person];
            }
            return sum;
        }

        private static int sumOver(int[] margin) {
            int sum = 0;
            for (int many : margin) {
                sum += many;
            }
            return sum;
        }

        private void shareOut(int sum) {
            System.arraycopy(groupMargin, 0, groupsLeft, 0, GROUPS);
            System.arraycopy(homeMargin, 0, homesLeft, 0, MOST_PLACES);
            for (int group = 0; group < GROUPS; group++) {
                for (int place = 0; place < MOST_PLACES; place++) {
                    int many = sum > 0 ? groupMargin[group] * homeMargin[place] / sum : 0;
                    cells[group * MOST_PLACES + place] = many;
                    groupsLeft[group] -= many;
                    homesLeft[place] -= many;
                }
            }
        }

        private void fillUp() {
            for (int group = 0; group < GROUPS; group++) {
                for (int place = 0; place < MOST_PLACES; place++) {
                    int more = Math.min(groupsLeft[group], homesLeft[place]);
                    cells[group * MOST_PLACES + place] += more;
                    groupsLeft[group] -= more;
                    homesLeft[place] -= more;
                }
            }
        }

        private void moveIn(int group, int place, int seed) {
            int many = cells[group * MOST_PLACES + place];
            for (int more = 0; more < many && count < MOST_PEOPLE; more++) {
                groups[count] = group;
                homes[count] = place;
                works[count] = 0;
                tied[count] = 0;
                for (int trait = 0; trait < TRAITS; trait++) {
                    firstTraits[count * TRAITS + trait] = drawn(seed, count, 0, FIRST_TRAIT_PURPOSE + trait);
                }
                count++;
            }
        }
    }

    /** The rules as told, with the mode and the seed. */
    static final class Rules {
        final char[] kinds = new char[MOST_RULES];
        final int[] aims = new int[MOST_RULES];
        final int[] guards = new int[MOST_RULES];
        final int[] limits = new int[MOST_RULES];
        final int[] amounts = new int[MOST_RULES];
        final int[] chances = new int[MOST_RULES];
        int onBits;
        int count;
        char mode;
        int seed;

        Rules() {
            mode = IN_TURN;
            seed = 1;
        }

        int append(char kind, int aim, int guard, int limit, int amount, int chance) {
            int rule = count;
            kinds[rule] = kind;
            aims[rule] = aim;
            guards[rule] = guard;
            limits[rule] = limit;
            amounts[rule] = amount;
            chances[rule] = chance;
            count++;
            turn(rule, true);
            return rule;
        }

        boolean isOn(int rule) {
            return (onBits >> rule & 1) == 1;
        }

        void turn(int rule, boolean is) {
            onBits = is ? onBits | 1 << rule : onBits & ~(1 << rule);
        }

        long fold(long first) {
            long sum = first;
            for (int rule = 0; rule < count; rule++) {
                sum = 31 * sum + kinds[rule];
                sum = 31 * sum + aims[rule];
                sum = 31 * sum + guards[rule];
                sum = 31 * sum + limits[rule];
                sum = 31 * sum + amounts[rule];
                sum = 31 * sum + chances[rule];
                sum = 31 * sum + (isOn(rule) ? 1 : 0);
            }
            sum = 31 * sum + mode;
            return 31 * sum + seed;
        }
    }

    /** The figures told as seen. */
    static final class Figures {
        private final int[] days = new int[MOST_FIGURES];
        private final int[] means = new int[MOST_FIGURES];
        private final boolean[] tests = new boolean[MOST_FIGURES];
        int count;

        int append(int day, int seen, boolean isTest) {
            days[count] = day;
            means[count] = seen;
            tests[count] = isTest;
            count++;
            return count;
        }

        /** 0 if nothing of that sort is told. */
        int lastDay(boolean isTest) {
            int last = 0;
            for (int figure = 0; figure < count; figure++) {
                if (tests[figure] == isTest) {
                    last = Math.max(last, days[figure]);
                }
            }
            return last;
        }

        long squares(int day, boolean isTest, int shown) {
            long sum = 0;
            for (int figure = 0; figure < count; figure++) {
                if (days[figure] == day && tests[figure] == isTest) {
                    long less = shown - means[figure];
                    sum += less * less;
                }
            }
            return sum;
        }
    }

    /** A run of days by what is told, that of the town itself or one in thought; begin() comes ahead of goOn(). */
    static final class Run {
        private final Places places;
        private final People people;
        private final Rules rules;
        final int[] traits = new int[MOST_PEOPLE * TRAITS];
        private final int[] dawn = new int[MOST_PEOPLE * TRAITS];
        int day;
        int onBits;
        private int changedRule;
        private int changedAmount;
        private int sparedRule;
        private int sparedPerson;

        Run(Places places, People people, Rules rules) {
            this.places = places;
            this.people = people;
            this.rules = rules;
        }

        /** Goes back to the first day, by all that is told now. */
        void begin() {
            System.arraycopy(people.firstTraits, 0, traits, 0, MOST_PEOPLE * TRAITS);
            day = 0;
            onBits = rules.onBits;
            changedRule = NONE;
            sparedRule = NONE;
        }

        void leaveOut(int rule) {
            onBits &= ~(1 << rule);
        }

        void takeAmount(int rule, int amount) {
            changedRule = rule;
            changedAmount = amount;
        }

        void spare(int rule, int person) {
            sparedRule = rule;
            sparedPerson = person;
        }

        void goOn(int more) {
            for (int step = 0; step < more; step++) {
                liveDay();
            }
        }

        int valueOf(int person, int trait) {
            return traits[person * TRAITS + trait];
        }

        int sumOf(int trait) {
            int sum = 0;
            for (int person = 0; person < people.count; person++) {
                sum += valueOf(person, trait);
            }
            return sum;
        }

        int meanOf(int trait) {
            return people.count > 0 ? sumOf(trait) * 100 / people.count : 0;
        }

        int firstUnlike(Run other) {
            for (int at = 0; at < people.count * TRAITS; at++) {
                if (traits[at] != other.traits[at]) {
                    return at / TRAITS;
                }
            }
            return NONE;
        }

        boolean isInRange() {
            for (int at = 0; at < people.count * TRAITS; at++) {
                if (traits[at] != held(traits[at])) {
                    return false;
                }
            }
            return true;
        }

        private void liveDay() {
            day++;
            System.arraycopy(traits, 0, dawn, 0, MOST_PEOPLE * TRAITS);
            int[] seen = rules.mode == AT_ONCE ? dawn : traits;
            for (int person = 0; person < people.count; person++) {
                for (int rule = 0; rule < rules.count; rule++) {
                    if (acts(rule, person, seen)) {
                        change(rule, person, seen);
                    }
                }
            }
        }

        private boolean acts(int rule, int person, int[] seen) {
            if ((onBits >> rule & 1) == 0 || rule == sparedRule && person == sparedPerson) {
                return false;
            }
            return isCalledFor(rule, person, seen)
                    && drawn(rules.seed, person, day, rule) < rules.chances[rule];
        }

        private boolean isCalledFor(int rule, int person, int[] seen) {
            int limit = rules.limits[rule];
            if (rules.kinds[rule] == TRAVELS) {
                return places.between(people.homes[person], people.works[person]) > limit;
            }
            return seen[person * TRAITS + rules.guards[rule]] >= limit;
        }

        private void change(int rule, int person, int[] seen) {
            int aim = rules.aims[rule];
            int at = person * TRAITS + aim;
            int amount = rule == changedRule ? changedAmount : rules.amounts[rule];
            if (rules.kinds[rule] != INFLUENCES) {
                traits[at] = held(traits[at] + amount);
                return;
            }
            int goal = tiedMean(person, aim, seen);
            if (goal != NONE) {
                traits[at] = held(drawnTo(goal, traits[at], amount));
            }
        }

        private int tiedMean(int person, int aim, int[] seen) {
            int sum = 0;
            int many = 0;
            for (int other = 0; other < people.count; other++) {
                if (people.isTied(person, other)) {
                    sum += seen[other * TRAITS + aim];
                    many++;
                }
            }
            return many > 0 ? sum / many : NONE;
        }

        private static int drawnTo(int goal, int value, int amount) {
            if (value < goal) {
                return Math.min(goal, value + amount);
            }
            return value > goal ? Math.max(goal, value - amount) : value;
        }
    }
}
