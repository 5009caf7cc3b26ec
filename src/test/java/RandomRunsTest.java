import java.lang.reflect.InvocationTargetException;
import java.lang.reflect.Method;
import java.util.ArrayList;
import java.util.Arrays;
import java.util.List;
import java.util.Random;

/** Random runs of calls, each answer against that of the model; the seeds are fixed, so that a fault comes again. */
public final class RandomRunsTest {
    private static final int RUNS = 400;
    private static final int CALLS = 400;
    private static final int[] STRANGE = {-1, 0, Integer.MIN_VALUE, Integer.MAX_VALUE, 1 << 31 >> 1, 255, -128};
    private static final List<String> NAMES = new ArrayList<>();
    private static final List<Method> ACTUAL = new ArrayList<>();
    private static final List<Method> DUE = new ArrayList<>();

    private final Random random;
    private final Madeham town = new Madeham();
    private final Model model = new Model();
    private final StringBuilder story = new StringBuilder();
    private int places = 0;
    private int people = 0;
    private int rules = 0;

    private RandomRunsTest(long seed) {
        random = new Random(seed);
    }

    public static void main(String[] args) throws Exception {
        for (Method method : Model.class.getDeclaredMethods()) {
            if (java.lang.reflect.Modifier.isPublic(method.getModifiers())) {
                NAMES.add(method.getName());
            }
        }
        NAMES.sort(null);
        for (String name : NAMES) {
            ACTUAL.add(named(Madeham.class, name));
            DUE.add(named(Model.class, name));
        }
        Due.same("all calls", 40, NAMES.size() + 1);
        for (int run = 0; run < RUNS; run++) {
            if (!new RandomRunsTest(run).goes()) {
                break;
            }
        }
        Due.end();
    }

    private static Method named(Class<?> in, String name) {
        for (Method method : in.getDeclaredMethods()) {
            if (method.getName().equals(name) && java.lang.reflect.Modifier.isPublic(method.getModifiers())) {
                return method;
            }
        }
        throw new IllegalStateException("no method " + name);
    }

    private boolean goes() throws Exception {
        boolean isTown = random.nextInt(10) > 0;
        if (isTown && !settles()) {
            return false;
        }
        for (int call = 0; call < CALLS; call++) {
            String name = NAMES.get(random.nextInt(NAMES.size()));
            boolean isRare = name.equals("reset") || name.equals("make") || name.equals("setSeed");
            if (isRare && random.nextInt(3) > 0) {
                continue;
            }
            if (!isAlike(name, argumentsFor(name))) {
                return false;
            }
        }
        return true;
    }

    /** A town with places, people, ties and rules, so that most of the calls behind it have something to work on. */
    private boolean settles() throws Exception {
        int most = random.nextInt(3) == 0 ? 20 : 6;
        int want = 1 + random.nextInt(most);
        int wantPlaces = 1 + random.nextInt(5);
        int[] homes = new int[wantPlaces];
        int[] groups = new int[3];
        for (int person = 0; person < want; person++) {
            homes[random.nextInt(wantPlaces)]++;
            groups[random.nextInt(3)]++;
        }
        boolean isAlike = true;
        for (int place = 0; place < wantPlaces; place++) {
            isAlike &= isAlike("addPlace") && isAlike("setHomes", place, homes[place]);
            for (int other = 0; other < place; other++) {
                isAlike &= random.nextInt(3) == 0 || isAlike("link", place, other, random.nextInt(61));
            }
        }
        for (int group = 0; group < 3; group++) {
            isAlike &= isAlike("setGroup", group, groups[group]);
        }
        isAlike &= isAlike("make");
        for (int tie = 0; tie < want; tie++) {
            isAlike &= isAlike("tie", random.nextInt(want), random.nextInt(want), true);
            isAlike &= isAlike("setWork", random.nextInt(want), random.nextInt(wantPlaces));
        }
        for (int rule = random.nextInt(7); rule > 0; rule--) {
            isAlike &= isAlike("addRule", argumentsFor("addRule"));
        }
        return isAlike && isAlike("setMode", random.nextBoolean() ? 'a' : 't');
    }

    private Object[] argumentsFor(String name) {
        switch (name) {
            case "way": return of(place(), place());
            case "link": return of(place(), place(), upTo(60));
            case "setGroup": return of(upTo(2), upTo(random.nextInt(4) == 0 ? 20 : 5));
            case "setHomes": return of(place(), upTo(random.nextInt(4) == 0 ? 20 : 5));
            case "cell": return of(upTo(2), place());
            case "home": case "groupOf": return of(person());
            case "setWork": return of(person(), place());
            case "tie": return of(person(), person(), random.nextInt(3) > 0);
            case "setTrait": return of(person(), upTo(3), upTo(99));
            case "addRule": return of(letter("aiiit"), upTo(3), upTo(3), upTo(random.nextInt(3) == 0 ? 99 : 30),
                    amount(), random.nextInt(3) == 0 ? 100 : upTo(100));
            case "setOn": return of(rule(), random.nextBoolean());
            case "setAmount": return of(rule(), amount());
            case "setMode": return of(letter("at"));
            case "setSeed": return of(random.nextInt(8) == 0 ? 999999 : upTo(999999));
            case "draw": return of(upTo(19), upTo(60), upTo(199));
            case "pass": return of(random.nextInt(3) == 0 ? upTo(30) : upTo(5));
            case "trait": return of(person(), upTo(3));
            case "mean": case "shareBits": return of(upTo(3));
            case "groupMean": return of(upTo(2), upTo(3));
            case "survey": return of(upTo(3), upTo(9), upTo(100));
            case "effect": case "halfEffect": return design();
            case "tell": return of(upTo(random.nextInt(3) == 0 ? 60 : 9), upTo(9900), random.nextInt(3) == 0);
            case "error": return of(rule(), amount(), random.nextInt(3) == 0);
            case "fit": case "differs": return of(rule());
            case "cause": return of(rule(), upTo(3));
            case "causeFor": return of(rule(), person(), upTo(3));
            case "least": return of(rule(), upTo(3), random.nextInt(4) == 0 ? upTo(9900) : near());
            default: return of();
        }
    }

    private Object[] design() {
        int factors = random.nextInt(1 << Math.max(1, rules));
        int some = random.nextInt(5) == 0 ? random.nextInt(64) : factors & random.nextInt(64);
        boolean isStrange = random.nextInt(20) == 0;
        return of(isStrange ? strange() : factors, some, upTo(random.nextInt(3) == 0 ? 30 : 6), upTo(3));
    }

    /** A goal near the mean of now, so that amounts tell. */
    private int near() {
        return people == 0 ? 0 : Math.max(0, Math.min(9900, model.mean(0) + random.nextInt(800) - 400));
    }

    private static Object[] of(Object... arguments) {
        return arguments;
    }

    private int place() {
        return below(places);
    }

    private int person() {
        return below(people);
    }

    private int rule() {
        return below(rules);
    }

    private int amount() {
        return random.nextInt(40) == 0 ? strange() : random.nextInt(20) == 0 ? 10 : random.nextInt(19) - 9;
    }

    private char letter(String letters) {
        return random.nextInt(20) == 0 ? (char) random.nextInt(65536) : letters.charAt(random.nextInt(letters.length()));
    }

    private int strange() {
        return STRANGE[random.nextInt(STRANGE.length)];
    }

    private int below(int count) {
        return count == 0 || random.nextInt(25) == 0 ? (random.nextBoolean() ? count : strange()) : random.nextInt(count);
    }

    private int upTo(int high) {
        int kind = random.nextInt(40);
        return kind == 0 ? strange() : kind == 1 ? high + 1 : kind < 4 ? high : random.nextInt(high + 1);
    }

    private boolean isAlike(String name, Object... arguments) throws Exception {
        int which = NAMES.indexOf(name);
        Object got = answer(ACTUAL.get(which), town, arguments);
        Object want = answer(DUE.get(which), model, arguments);
        story.append(name).append(Arrays.toString(arguments)).append(" = ").append(want).append('\n');
        if (!want.equals(got)) {
            System.out.println(story);
        }
        Due.same(name + Arrays.toString(arguments), want, got);
        if (want instanceof Integer) {
            places += name.equals("addPlace") ? 1 : 0;
            people = name.equals("make") ? (Integer) want : people;
            rules += name.equals("addRule") ? 1 : 0;
        }
        return want.equals(got);
    }

    private static Object answer(Method method, Object on, Object[] arguments) throws Exception {
        try {
            return method.invoke(on, arguments);
        } catch (InvocationTargetException e) {
            Throwable thrown = e.getCause();
            boolean isDivision = "/ by zero".equals(thrown.getMessage());
            return isDivision ? thrown.toString() : thrown.getClass();
        }
    }
}
