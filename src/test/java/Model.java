import java.util.ArrayList;
import java.util.Arrays;
import java.util.List;
import java.util.NoSuchElementException;
import java.util.TreeSet;

/** A second, plain telling of the document: every answer is worked out anew from what was told. */
public final class Model {
    private static final class Person {
        int group;
        int home;
        int work;
        int[] first = new int[4];
        TreeSet<Integer> ties = new TreeSet<>();
    }

    private static final class Rule {
        char kind;
        int trait;
        int guard;
        int limit;
        int amount;
        int chance;
        boolean on = true;

        Rule copy() {
            Rule copy = new Rule();
            copy.kind = kind;
            copy.trait = trait;
            copy.guard = guard;
            copy.limit = limit;
            copy.amount = amount;
            copy.chance = chance;
            copy.on = on;
            return copy;
        }
    }

    private int places = 0;
    private final int[][] links = new int[5][5];
    private final int[] groupMargin = new int[3];
    private final int[] homeMargin = new int[5];
    private List<Person> people = new ArrayList<>();
    private final List<Rule> rules = new ArrayList<>();
    private final List<int[]> figures = new ArrayList<>();
    private char mode = 't';
    private int seed = 1;
    private int days = 0;

    private static void bounds(boolean isWrong) {
        if (isWrong) {
            throw new IndexOutOfBoundsException();
        }
    }

    private static void argument(boolean isWrong) {
        if (isWrong) {
            throw new IllegalArgumentException();
        }
    }

    private static void unsupported(boolean isWrong) {
        if (isWrong) {
            throw new UnsupportedOperationException();
        }
    }

    private static void state(boolean isWrong) {
        if (isWrong) {
            throw new IllegalStateException();
        }
    }

    private static void noSuch(boolean isWrong) {
        if (isWrong) {
            throw new NoSuchElementException();
        }
    }

    private boolean noPlace(int place) {
        return !(0 <= place && place < places);
    }

    private boolean noPerson(int person) {
        return !(0 <= person && person < people.size());
    }

    private boolean noRule(int rule) {
        return !(0 <= rule && rule < rules.size());
    }

    private static boolean out(long number, long low, long high) {
        return number < low || number > high;
    }

    public int addPlace() {
        unsupported(days > 0);
        state(places == 5);
        return places++;
    }

    public int link(int place, int other, int minutes) {
        bounds(noPlace(place) || noPlace(other));
        argument(place == other || out(minutes, 0, 60));
        unsupported(days > 0);
        int before = links[place][other];
        links[place][other] = links[other][place] = minutes;
        return before;
    }

    /** The least sum over all paths without a place twice. */
    private int leastWay(int from, int to, int visited) {
        if (from == to) {
            return 0;
        }
        int least = 999;
        for (int next = 0; next < places; next++) {
            if (links[from][next] > 0 && (visited >> next & 1) == 0) {
                least = Math.min(least, links[from][next] + leastWay(next, to, visited | 1 << next));
            }
        }
        return least;
    }

    public int way(int place, int other) {
        bounds(noPlace(place) || noPlace(other));
        return leastWay(place, other, 1 << place);
    }

    public int setGroup(int group, int many) {
        argument(out(group, 0, 2) || out(many, 0, 20));
        int before = groupMargin[group];
        groupMargin[group] = many;
        return before;
    }

    public int setHomes(int place, int many) {
        bounds(noPlace(place));
        argument(out(many, 0, 20));
        int before = homeMargin[place];
        homeMargin[place] = many;
        return before;
    }

    public int make() {
        unsupported(days > 0);
        int sum = Arrays.stream(groupMargin).sum();
        unsupported(sum != Arrays.stream(homeMargin).sum() || out(sum, 1, 20));
        int[][] cells = new int[3][5];
        for (int cell = 0; cell < 15; cell++) {
            cells[cell / 5][cell % 5] = (int) Math.floor((double) groupMargin[cell / 5] * homeMargin[cell % 5] / sum);
        }
        for (int cell = 0; cell < 15; cell++) {
            int group = cell / 5;
            int place = cell % 5;
            int lives = cells[0][place] + cells[1][place] + cells[2][place];
            int more = Math.min(groupMargin[group] - Arrays.stream(cells[group]).sum(), homeMargin[place] - lives);
            cells[group][place] += more;
        }
        people = new ArrayList<>();
        for (int cell = 0; cell < 15; cell++) {
            for (int more = 0; more < cells[cell / 5][cell % 5]; more++) {
                Person person = new Person();
                person.group = cell / 5;
                person.home = cell % 5;
                for (int trait = 0; trait < 4; trait++) {
                    person.first[trait] = drawn(people.size(), 0, 100 + trait);
                }
                people.add(person);
            }
        }
        return people.size();
    }

    public int cell(int group, int place) {
        argument(out(group, 0, 2));
        bounds(noPlace(place));
        return (int) people.stream().filter(p -> p.group == group && p.home == place).count();
    }

    public int home(int person) {
        bounds(noPerson(person));
        return people.get(person).home;
    }

    public int groupOf(int person) {
        bounds(noPerson(person));
        return people.get(person).group;
    }

    public int setWork(int person, int place) {
        bounds(noPerson(person) || noPlace(place));
        unsupported(days > 0);
        int before = people.get(person).work;
        people.get(person).work = place;
        return before;
    }

    public boolean tie(int person, int other, boolean is) {
        bounds(noPerson(person) || noPerson(other));
        argument(person == other);
        unsupported(days > 0);
        boolean before = people.get(person).ties.contains(other);
        if (is) {
            people.get(person).ties.add(other);
            people.get(other).ties.add(person);
        } else {
            people.get(person).ties.remove(other);
            people.get(other).ties.remove(person);
        }
        return before;
    }

    public int setTrait(int person, int trait, int value) {
        bounds(noPerson(person));
        argument(out(trait, 0, 3) || out(value, 0, 99));
        unsupported(days > 0);
        int before = people.get(person).first[trait];
        people.get(person).first[trait] = value;
        return before;
    }

    public int addRule(char kind, int trait, int guard, int limit, int amount, int chance) {
        argument("ait".indexOf(kind) < 0 || out(trait, 0, 3) || out(guard, 0, 3) || out(limit, 0, 99)
                || out(amount, -9, 9) || out(chance, 0, 100));
        unsupported(days > 0);
        state(rules.size() == 6);
        Rule rule = new Rule();
        rule.kind = kind;
        rule.trait = trait;
        rule.guard = guard;
        rule.limit = limit;
        rule.amount = amount;
        rule.chance = chance;
        rules.add(rule);
        return rules.size() - 1;
    }

    public boolean setOn(int rule, boolean is) {
        bounds(noRule(rule));
        unsupported(days > 0);
        boolean before = rules.get(rule).on;
        rules.get(rule).on = is;
        return before;
    }

    public int setAmount(int rule, int amount) {
        bounds(noRule(rule));
        argument(out(amount, -9, 9));
        unsupported(days > 0);
        int before = rules.get(rule).amount;
        rules.get(rule).amount = amount;
        return before;
    }

    public char setMode(char newMode) {
        argument(newMode != 'a' && newMode != 't');
        unsupported(days > 0);
        char before = mode;
        mode = newMode;
        return before;
    }

    public int setSeed(int newSeed) {
        argument(out(newSeed, 1, 999999));
        unsupported(days > 0);
        int before = seed;
        seed = newSeed;
        return before;
    }

    private int drawn(int person, int day, int purpose) {
        long m = seed * 31L;
        m += person * 7919L;
        m += day * 104729L;
        m += purpose * 1299709L;
        m *= 48271;
        m %= 2147483647;
        return (int) (m % 100);
    }

    public int draw(int person, int day, int purpose) {
        argument(out(person, 0, 19) || out(day, 0, 60) || out(purpose, 0, 199));
        return drawn(person, day, purpose);
    }

    /** The traits, by persons, behind so many days by these rules; one rule may spare one person. */
    private int[][] run(int lastDay, List<Rule> by, int sparingRule, int sparedPerson) {
        int[][] traits = new int[people.size()][];
        for (int p = 0; p < traits.length; p++) {
            traits[p] = people.get(p).first.clone();
        }
        for (int day = 1; day <= lastDay; day++) {
            int[][] seen = traits;
            if (mode == 'a') {
                seen = new int[traits.length][];
                for (int p = 0; p < traits.length; p++) {
                    seen[p] = traits[p].clone();
                }
            }
            for (int p = 0; p < traits.length; p++) {
                for (int r = 0; r < by.size(); r++) {
                    if (!(r == sparingRule && p == sparedPerson)) {
                        act(by.get(r), r, p, day, seen, traits);
                    }
                }
            }
        }
        return traits;
    }

    private void act(Rule rule, int number, int p, int day, int[][] seen, int[][] traits) {
        Person person = people.get(p);
        if (!rule.on || drawn(p, day, number) >= rule.chance) {
            return;
        }
        if (rule.kind == 't' && way(person.home, person.work) <= rule.limit) {
            return;
        }
        if (rule.kind != 't' && seen[p][rule.guard] < rule.limit) {
            return;
        }
        int value = traits[p][rule.trait];
        int becomes = value + rule.amount;
        if (rule.kind == 'i') {
            if (person.ties.isEmpty()) {
                return;
            }
            int sum = 0;
            for (int other : person.ties) {
                sum += seen[other][rule.trait];
            }
            int mean = sum / person.ties.size();
            if (value == mean) {
                return;
            }
            int far = Math.abs(rule.amount);
            if (rule.amount >= 0) {
                far = Math.min(far, Math.abs(mean - value));
            }
            boolean isUp = value < mean == rule.amount >= 0;
            becomes = isUp ? value + far : value - far;
        }
        traits[p][rule.trait] = becomes < 0 ? 0 : becomes > 99 ? 99 : becomes;
    }

    private int[][] traitsNow() {
        return run(days, rules, -1, -1);
    }

    private List<Rule> copies() {
        List<Rule> copies = new ArrayList<>();
        for (Rule rule : rules) {
            copies.add(rule.copy());
        }
        return copies;
    }

    private List<Rule> withAmount(int rule, int amount) {
        List<Rule> copies = copies();
        copies.get(rule).amount = amount;
        return copies;
    }

    private List<Rule> withOn(int rule, boolean is) {
        List<Rule> copies = copies();
        copies.get(rule).on = is;
        return copies;
    }

    private static int sumOf(int[][] traits, int trait) {
        return Arrays.stream(traits).mapToInt(of -> of[trait]).sum();
    }

    private static int meanOf(int[][] traits, int trait) {
        return sumOf(traits, trait) * 100 / traits.length;
    }

    public int pass(int more) {
        argument(out(more, 1, 30));
        unsupported(people.isEmpty());
        state(days + more > 60);
        days += more;
        return days;
    }

    public int reset() {
        int before = days;
        days = 0;
        return before;
    }

    public int today() {
        return days;
    }

    public int trait(int person, int trait) {
        bounds(noPerson(person));
        argument(out(trait, 0, 3));
        return traitsNow()[person][trait];
    }

    public int mean(int trait) {
        argument(out(trait, 0, 3));
        unsupported(people.isEmpty());
        return meanOf(traitsNow(), trait);
    }

    private static int meanOver(List<Integer> values) {
        noSuch(values.isEmpty());
        return values.stream().mapToInt(value -> value).sum() * 100 / values.size();
    }

    public int groupMean(int group, int trait) {
        argument(out(group, 0, 2) || out(trait, 0, 3));
        List<Integer> values = new ArrayList<>();
        for (int p = 0; p < people.size(); p++) {
            if (people.get(p).group == group) {
                values.add(traitsNow()[p][trait]);
            }
        }
        return meanOver(values);
    }

    public int survey(int trait, int each, int refusal) {
        argument(out(trait, 0, 3) || out(each, 1, 9) || out(refusal, 0, 100));
        List<Integer> values = new ArrayList<>();
        for (int p = 0; p < people.size(); p++) {
            if (p % each == 0 && !(drawn(p, days, 150) < refusal)) {
                values.add(traitsNow()[p][trait]);
            }
        }
        return meanOver(values);
    }

    public int effect(int factors, int some, int many, int trait) {
        return effectOver(factors, some, many, trait, false);
    }

    public int halfEffect(int factors, int some, int many, int trait) {
        return effectOver(factors, some, many, trait, true);
    }

    private int effectOver(int factors, int some, int many, int trait, boolean isHalf) {
        List<Integer> chosen = new ArrayList<>();
        for (int bit = 0; bit < 32; bit++) {
            boolean isFactor = (factors >>> bit & 1) == 1;
            bounds((isFactor || (some >>> bit & 1) == 1) && bit >= rules.size());
            if (isFactor) {
                chosen.add(bit);
            }
        }
        argument(chosen.isEmpty() || chosen.size() > 3 || some == 0 || (some | factors) != factors);
        argument(out(many, 1, 30) || out(trait, 0, 3));
        unsupported(people.isEmpty());
        int sum = 0;
        for (int which = 0; which < 1 << chosen.size(); which++) {
            List<Rule> by = copies();
            int off = 0;
            int someOff = 0;
            for (int factor = 0; factor < chosen.size(); factor++) {
                boolean isOn = (which >> factor & 1) == 1;
                by.get(chosen.get(factor)).on = isOn;
                off += isOn ? 0 : 1;
                someOff += !isOn && (some >> chosen.get(factor) & 1) == 1 ? 1 : 0;
            }
            if (!isHalf || off % 2 == 0) {
                sum += (someOff % 2 == 0 ? 1 : -1) * sumOf(run(many, by, -1, -1), trait);
            }
        }
        return sum;
    }

    public int tell(int day, int mean, boolean isTest) {
        argument(out(day, 1, 60) || out(mean, 0, 9900));
        state(figures.size() == 10);
        figures.add(new int[] {day, mean, isTest ? 1 : 0});
        return figures.size();
    }

    public long error(int rule, int amount, boolean isTest) {
        bounds(noRule(rule));
        argument(out(amount, -9, 9));
        unsupported(people.isEmpty());
        long sum = 0;
        for (int[] figure : figures) {
            if (figure[2] == (isTest ? 1 : 0)) {
                long less = meanOf(run(figure[0], withAmount(rule, amount), -1, -1), 0) - figure[1];
                sum += less * less;
            }
        }
        return sum;
    }

    public int fit(int rule) {
        bounds(noRule(rule));
        unsupported(people.isEmpty());
        noSuch(figures.stream().noneMatch(figure -> figure[2] == 0));
        int best = 9;
        for (int amount = 9; amount >= -9; amount--) {
            if (error(rule, amount, false) <= error(rule, best, false)) {
                best = amount;
            }
        }
        return best;
    }

    public int cause(int rule, int trait) {
        bounds(noRule(rule));
        argument(out(trait, 0, 3));
        unsupported(people.isEmpty());
        return meanOf(traitsNow(), trait) - meanOf(run(days, withOn(rule, false), -1, -1), trait);
    }

    public int causeFor(int rule, int person, int trait) {
        bounds(noRule(rule) || noPerson(person));
        argument(out(trait, 0, 3));
        return traitsNow()[person][trait] - run(days, rules, rule, person)[person][trait];
    }

    public int differs(int rule) {
        bounds(noRule(rule));
        unsupported(people.isEmpty());
        for (int day = 1; day <= days; day++) {
            int[][] one = run(day, rules, -1, -1);
            int[][] other = run(day, withOn(rule, false), -1, -1);
            for (int p = 0; p < people.size(); p++) {
                if (!Arrays.equals(one[p], other[p])) {
                    return 100 * day + p;
                }
            }
        }
        throw new NoSuchElementException();
    }

    public int least(int rule, int trait, int goal) {
        bounds(noRule(rule));
        argument(out(trait, 0, 3) || out(goal, 0, 9900));
        unsupported(people.isEmpty());
        for (int amount = -9; amount <= 9; amount++) {
            if (meanOf(run(days, withAmount(rule, amount), -1, -1), trait) >= goal) {
                return amount;
            }
        }
        throw new NoSuchElementException();
    }

    private static long folded(List<Integer> parts) {
        long sum = 7;
        for (int part : parts) {
            sum = sum * 31 + part;
        }
        return sum;
    }

    public long hash() {
        List<Integer> parts = new ArrayList<>();
        for (int place = 0; place < places; place++) {
            for (int other = place + 1; other < places; other++) {
                parts.add(links[place][other]);
            }
        }
        for (Person person : people) {
            parts.add(person.home);
            parts.add(person.work);
            for (int value : person.first) {
                parts.add(value);
            }
            parts.add(person.ties.stream().mapToInt(other -> 1 << other).sum());
        }
        for (Rule rule : rules) {
            parts.addAll(List.of((int) rule.kind, rule.trait, rule.guard, rule.limit, rule.amount, rule.chance));
            parts.add(rule.on ? 1 : 0);
        }
        parts.add((int) mode);
        parts.add(seed);
        return folded(parts);
    }

    public long checksum() {
        List<Integer> parts = new ArrayList<>();
        for (int[] traits : traitsNow()) {
            for (int value : traits) {
                parts.add(value);
            }
        }
        parts.add(days);
        return folded(parts);
    }

    public int shareBits(int trait) {
        argument(out(trait, 0, 3));
        if (people.isEmpty()) {
            throw new ArithmeticException();
        }
        long many = Arrays.stream(traitsNow()).filter(of -> of[trait] >= 50).count();
        return Float.floatToIntBits((float) many / (float) people.size());
    }

    public double meanWay() {
        if (people.isEmpty()) {
            throw new ArithmeticException();
        }
        int sum = people.stream().mapToInt(p -> way(p.home, p.work)).sum();
        return (double) sum / (double) people.size();
    }

    public boolean isSound() {
        return true;
    }
}
