import java.math.BigInteger;
import java.util.LinkedHashSet;
import java.util.List;
import java.util.Set;

/** Boundary cases: each case belongs to a sentence of the document, and each sentence is to have its cases. */
final class Edges {
    private static final Set<String> told = new LinkedHashSet<>();
    private static String sentence = "";
    private static List<String> rows = List.of();
    private static int promise = 0;

    interface Town {
        Madeham make();
    }

    interface Ask {
        Object of(Madeham town);
    }

    interface AskNumber {
        Object of(Madeham town, int number);
    }

    private Edges() {
    }

    /** The cases that follow are of this promise. */
    static void promise(int number) throws Exception {
        promise = number;
        rows = Doc.rows(number);
        told.clear();
    }

    /** The cases that follow are of the sentences of "Terms". */
    static void terms() throws Exception {
        promise = 0;
        rows = Doc.terms();
        told.clear();
    }

    /** The cases that follow are of this sentence, which stands in the document just so. */
    static void says(String text) {
        sentence = promise + " " + (text.length() > 60 ? text.substring(0, 60) + ".." : text) + ": ";
        Due.same(sentence + "in the document", true, rows.contains(text));
        told.add(text);
    }

    /** No sentence may be without cases. */
    static void allSaid() {
        for (String row : rows) {
            Due.same(promise + " has cases for: " + row, true, told.contains(row));
        }
    }

    static void same(String what, Object want, Object got) {
        Due.same(sentence + what, want, got);
    }

    /** What a call on a new town of this sort answers. */
    static void answers(String what, Object want, Town town, Ask ask) {
        same(what, want, Due.answerOf(() -> ask.of(town.make())));
    }

    /** A call on a new town of this sort is refused with this very exception, and changes nothing. */
    static void refused(String what, Class<?> with, Town town, Ask ask) {
        Madeham asked = town.make();
        same(what, with, Due.answerOf(() -> ask.of(asked)));
        same(what + ", and nothing changed", allOf(town.make()), allOf(asked));
    }

    /** From low to high all is taken, and what is beyond is refused. */
    static void range(String what, Class<?> with, Town town, int low, int high, AskNumber ask) {
        for (int number : new int[] {low, high, low + (high - low) / 2}) {
            Object answer = Due.answerOf(() -> ask.of(town.make(), number));
            boolean isTaken = !(answer instanceof Class) && !(answer instanceof RuntimeException);
            same(what + " " + number + " is taken", true, isTaken);
        }
        beyond(what, with, town, low, high, ask);
    }

    /** What is below low or above high is refused. */
    static void beyond(String what, Class<?> with, Town town, int low, int high, AskNumber ask) {
        for (int number : new int[] {low - 1, high + 1, Integer.MIN_VALUE, Integer.MAX_VALUE}) {
            refused(what + " " + number, with, town, made -> ask.of(made, number));
        }
    }

    /** A sum that goes round where a long does: 31 times itself plus each part. */
    static long folded(long first, List<Integer> parts) {
        BigInteger sum = BigInteger.valueOf(first);
        for (int part : parts) {
            sum = sum.multiply(BigInteger.valueOf(31)).add(BigInteger.valueOf(part));
        }
        return sum.longValue();
    }

    /** The same sum without going round, to see that it is beyond a long. */
    static boolean goesRound(long first, List<Integer> parts) {
        BigInteger sum = BigInteger.valueOf(first);
        for (int part : parts) {
            sum = sum.multiply(BigInteger.valueOf(31)).add(BigInteger.valueOf(part));
        }
        return sum.bitLength() > 63;
    }

    /** All that a town can tell, by fewer than 200 calls; the town is used up by them. */
    private static String allOf(Madeham town) {
        StringBuilder text = new StringBuilder();
        add(text, "today", town::today);
        add(text, "checksum", town::checksum);
        add(text, "hash", town::hash);
        add(text, "isSound", town::isSound);
        add(text, "draw", () -> town.draw(3, 5, 7));
        addPlaces(text, town);
        for (int at = 0; at < 20; at++) {
            int person = at;
            add(text, "home", () -> town.home(person));
            add(text, "groupOf", () -> town.groupOf(person));
        }
        for (int at = 0; at < 6; at++) {
            int rule = at;
            add(text, "error", () -> town.error(rule, 1, false));
            add(text, "test error", () -> town.error(rule, -2, true));
        }
        addMargins(text, town);
        addRest(text, town);
        return text.toString();
    }

    private static void addPlaces(StringBuilder text, Madeham town) {
        for (int pair = 0; pair < 25; pair++) {
            int place = pair / 5;
            int other = pair % 5;
            add(text, "way", () -> town.way(place, other));
        }
        for (int pair = 0; pair < 15; pair++) {
            int group = pair / 5;
            int place = pair % 5;
            add(text, "cell", () -> town.cell(group, place));
        }
    }

    private static void addMargins(StringBuilder text, Madeham town) {
        for (int at = 0; at < 5; at++) {
            int number = at;
            add(text, "setGroup", () -> town.setGroup(number, 0));
            add(text, "setHomes", () -> town.setHomes(number, 0));
        }
    }

    /** What goes on from now, and what comes back as the town is reset. */
    private static void addRest(StringBuilder text, Madeham town) {
        add(text, "pass", () -> town.pass(1));
        add(text, "checksum", town::checksum);
        add(text, "reset", town::reset);
        add(text, "checksum", town::checksum);
        add(text, "setMode", () -> town.setMode('t'));
        add(text, "setSeed", () -> town.setSeed(1));
        add(text, "tell", () -> town.tell(1, 0, false));
        add(text, "addPlace", town::addPlace);
        add(text, "addRule", () -> town.addRule('a', 0, 0, 0, 0, 0));
    }

    private static void add(StringBuilder text, String name, Due.Call call) {
        text.append(name).append(' ').append(Due.answerOf(call)).append('\n');
    }
}
