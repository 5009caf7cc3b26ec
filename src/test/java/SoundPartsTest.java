import java.lang.reflect.Field;
import java.lang.reflect.Method;
import java.util.HashMap;
import java.util.Map;

/**
 * Promise 40: what no run of calls can bring about is told by the parts inside, which are spoilt here by hand. The parts
 * are looked up by their names, so that a class that is built otherwise inside can still be run against all other tests.
 */
public final class SoundPartsTest {
    private static final Map<String, Class<?>> PARTS = new HashMap<>();

    public static void main(String[] args) throws Exception {
        for (Class<?> part : Madeham.class.getDeclaredClasses()) {
            PARTS.put(part.getSimpleName(), part);
        }
        if (PARTS.containsKey("Places") && PARTS.containsKey("People") && PARTS.containsKey("Run")) {
            margins();
            ties();
            ways();
            traits();
            runs();
            spoiltTowns();
        } else {
            System.out.println("the class has no parts of these names");
        }
        Due.end();
    }

    private static Object part(String name, Object... with) throws Exception {
        return PARTS.get(name).getDeclaredConstructors()[0].newInstance(with);
    }

    private static Object call(Object part, String name, Object... with) throws Exception {
        for (Method method : part.getClass().getDeclaredMethods()) {
            if (method.getName().equals(name)) {
                return method.invoke(part, with);
            }
        }
        throw new NoSuchMethodException(name);
    }

    private static Field field(Object part, String name) throws Exception {
        return part.getClass().getDeclaredField(name);
    }

    private static void put(Object part, String row, int at, int value) throws Exception {
        ((int[]) field(part, row).get(part))[at] = value;
    }

    private static Object five() throws Exception {
        Object people = part("People");
        put(people, "groupMargin", 0, 3);
        put(people, "groupMargin", 2, 2);
        put(people, "homeMargin", 1, 4);
        put(people, "homeMargin", 4, 1);
        call(people, "settle", 1);
        return people;
    }

    private static void isDue(String what, boolean want, Object part, String check) throws Exception {
        Due.same("40 " + what, want, call(part, check));
    }

    private static void margins() throws Exception {
        Object people = five();
        isDue("fits", true, people, "fitMargins");
        put(people, "groups", 0, 2);
        isDue("a group is wrong", false, people, "fitMargins");
        put(people, "groups", 0, 0);
        put(people, "homes", 0, 4);
        isDue("a home is wrong", false, people, "fitMargins");
        put(people, "homes", 0, 1);
        field(people, "count").setInt(people, 4);
        isDue("one is missing", false, people, "fitMargins");
        field(people, "count").setInt(people, 5);
        put(people, "groupMargin", 0, 9);
        isDue("fits those by which they were made", true, people, "fitMargins");
    }

    private static void ties() throws Exception {
        Object people = five();
        call(people, "bind", 0, 4, true);
        isDue("both ways", true, people, "tiesMatch");
        put(people, "tied", 4, 0);
        isDue("one way", false, people, "tiesMatch");
        put(people, "tied", 0, 0);
        put(people, "tied", 3, 4);
        isDue("one way up", false, people, "tiesMatch");
    }

    private static void ways() throws Exception {
        Object places = part("Places");
        for (int place = 0; place < 3; place++) {
            call(places, "append");
        }
        call(places, "join", 0, 1, 5);
        call(places, "join", 1, 2, 6);
        isDue("shortest", true, places, "waysAreShortest");
        put(places, "ways", 2, 12);
        isDue("a way is too long", false, places, "waysAreShortest");
        put(places, "ways", 2, 11);
        put(places, "ways", 2 * 5, 12);
        isDue("the way back is too long", false, places, "waysAreShortest");
        put(places, "ways", 2 * 5, 11);
        isDue("shortest again", true, places, "waysAreShortest");
    }

    private static Object run(Object people) throws Exception {
        Object run = part("Run", part("Places"), people, part("Rules"));
        call(run, "begin");
        return run;
    }

    private static void traits() throws Exception {
        Object run = run(five());
        isDue("in range", true, run, "isInRange");
        put(run, "traits", 19, 100);
        isDue("too much", false, run, "isInRange");
        put(run, "traits", 19, 99);
        put(run, "traits", 0, -1);
        isDue("too little", false, run, "isInRange");
        put(run, "traits", 0, 0);
        put(run, "traits", 20, 100);
        isDue("of nobody", true, run, "isInRange");
    }

    private static void runs() throws Exception {
        Object people = five();
        Object run = run(people);
        Object other = run(people);
        Due.same("40 alike", -1, call(run, "firstUnlike", other));
        int last = ((int[]) field(other, "traits").get(other))[15];
        put(other, "traits", 15, last + 1);
        Due.same("40 unlike in the last trait", 3, call(run, "firstUnlike", other));
    }

    /** What the town of a full size holds in this field. */
    private static Object held(Madeham town, String name) throws Exception {
        Field field = Madeham.class.getDeclaredField(name);
        field.setAccessible(true);
        return field.get(town);
    }

    private static void spoiltTowns() throws Exception {
        spoilt("people", "groups", 19, 0);
        spoilt("people", "homes", 0, 4);
        spoilt("people", "tied", 5, 1 << 9);
        spoilt("people", "firstTraits", 79, 0);
        spoilt("places", "ways", 3, 181);
        spoilt("now", "traits", 0, 100);
        spoilt("now", "traits", 79, -1);
        Madeham town = Towns.ended();
        Object now = held(town, "now");
        int value = ((int[]) field(now, "traits").get(now))[40];
        put(now, "traits", 40, value == 50 ? 51 : 50);
        Due.is("40 a trait that no run has", false, town::isSound);
    }

    private static void spoilt(String part, String row, int at, int value) throws Exception {
        Madeham town = Towns.ended();
        Due.is("40 sound at first", true, town::isSound);
        put(held(town, part), row, at, value);
        Due.is("40 " + row + " of " + part + " are spoilt", false, town::isSound);
    }
}
