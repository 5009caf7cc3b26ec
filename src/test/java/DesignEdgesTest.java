/** The boundary cases of the promises 27 and 28: effects over a design, and over half of it. */
public final class DesignEdgesTest {
    private static final Edges.Town EMPTY = Towns::empty;
    private static final Edges.Town UNPEOPLED = Towns::unpeopled;
    private static final Edges.Town ORDINARY = Towns::ordinary;
    private static final Edges.Town FULL = Towns::full;
    private static final Edges.Town ENDED = Towns::ended;

    private interface Design {
        int of(Madeham town, int factors, int some, int days, int trait);
    }

    private static final Design EFFECT = (town, factors, some, days, trait) -> town.effect(factors, some, days, trait);
    private static final Design HALF = (town, factors, some, days, trait) -> town.halfEffect(factors, some, days, trait);

    public static void main(String[] args) throws Exception {
        effect();
        numbers(EFFECT);
        refuses(EFFECT);
        refusesInOrder(EFFECT);
        halfEffect();
        numbers(HALF);
        refuses(HALF);
        refusesInOrder(HALF);
        Due.end();
    }

    /** One person, whose trait 0 begins at 40: by the rule r it becomes 1, 2, 4, .. a day more; six rules in all. */
    private static Madeham powers() {
        Madeham town = Towns.with(40);
        int[] amounts = {1, 2, 4, 8, -3, -9};
        for (int amount : amounts) {
            town.addRule('a', 0, 0, 0, amount, 100);
        }
        return town;
    }

    private static void effect() throws Exception {
        Edges.promise(27);
        Edges.says("Returns the effect of some factors of a design.");
        Edges.answers("of one of one", 8, DesignEdgesTest::powers, town -> town.effect(8, 8, 1, 0));
        Edges.answers("of one of two", 2 * 8, DesignEdgesTest::powers, town -> town.effect(9, 8, 1, 0));
        Edges.answers("of one of three", 4 * 8, DesignEdgesTest::powers, town -> town.effect(13, 8, 1, 0));
        Edges.answers("of two, which mix up nothing", 0, DesignEdgesTest::powers, town -> town.effect(9, 9, 1, 0));
        Edges.says("Returns the sum.");
        Edges.answers("below 0", -9 * 4, DesignEdgesTest::powers, town -> town.effect(0x38, 0x20, 1, 0));
        Edges.answers("nothing", 0, DesignEdgesTest::powers, town -> town.effect(1, 1, 30, 3));
        Edges.answers("the most of twenty", 20 * 99, DesignEdgesTest::twentyByNine, town -> town.effect(1, 1, 11, 0));
        Edges.answers("the most held", 20 * 99, DesignEdgesTest::twentyByNine, town -> town.effect(1, 1, 30, 0));
        Edges.answers("behind all days", 8 * 2, DesignEdgesTest::behindSixty, town -> town.effect(8, 8, 2, 0));
    }

    private static Madeham twentyByNine() {
        Madeham town = Towns.with(new int[20]);
        town.addRule('a', 0, 0, 0, 9, 100);
        return town;
    }

    private static Madeham behindSixty() {
        Madeham town = powers();
        town.pass(30);
        town.pass(30);
        return town;
    }

    private static void halfEffect() throws Exception {
        Edges.promise(28);
        Edges.says("Returns the same over half the design.");
        Edges.answers("one factor: the run with it", 43, DesignEdgesTest::powers, town -> town.halfEffect(8, 8, 1, 0));
        // 43 with both on (all others being on), 43 - 9 with both off
        Edges.answers("two factors", 9, DesignEdgesTest::powers, town -> town.halfEffect(9, 8, 1, 0));
        Edges.answers("two factors, both", 43 + 34, DesignEdgesTest::powers, town -> town.halfEffect(9, 9, 1, 0));
        // all on 43; without 1 and 4: 38; without 1 and 8: 34; without 4 and 8: 31
        Edges.answers("three factors", 43 + 38 - 34 - 31, DesignEdgesTest::powers,
                town -> town.halfEffect(13, 8, 1, 0));
        Edges.answers("three factors, all", 43 + 38 + 34 + 31, DesignEdgesTest::powers,
                town -> town.halfEffect(13, 13, 1, 0));
        Edges.says("Returns the sum.");
        // all on 43; without 8 and -3: 38; without 8 and -9: 44; without -3 and -9: 55
        Edges.answers("below 0", 43 + 38 - 44 - 55, DesignEdgesTest::powers, town -> town.halfEffect(0x38, 0x20, 1, 0));
        Edges.answers("the most of twenty", 20 * 99, DesignEdgesTest::twentyByNine, town -> town.halfEffect(1, 1, 30, 0));
        Edges.answers("behind all days", 46, DesignEdgesTest::behindSixty, town -> town.halfEffect(8, 8, 2, 0));
    }

    private static void numbers(Design design) throws Exception {
        Edges.says("- `factors`: the bits of 1 to 3 rules");
        taken("the first", design, FULL, 1, 1);
        taken("the last of six", design, FULL, 32, 32);
        taken("the last of four", design, ORDINARY, 8, 8);
        taken("three", design, FULL, 1 + 2 + 4, 1);
        taken("the last three", design, FULL, 8 + 16 + 32, 32);
        taken("one that is off", design, ORDINARY, 8, 8);
        Edges.refused("none", Due.ARGUMENT, FULL, town -> design.of(town, 0, 0, 1, 0));
        Edges.refused("four", Due.ARGUMENT, FULL, town -> design.of(town, 1 + 2 + 4 + 8, 1, 1, 0));
        Edges.refused("the last four", Due.ARGUMENT, FULL, town -> design.of(town, 4 + 8 + 16 + 32, 32, 1, 0));
        Edges.refused("all six", Due.ARGUMENT, FULL, town -> design.of(town, 63, 1, 1, 0));
        Edges.says("- `some`: the bits of 1 or more of these");
        taken("one", design, FULL, 1 + 8 + 32, 8);
        taken("two", design, FULL, 1 + 8 + 32, 1 + 32);
        taken("all", design, FULL, 1 + 8 + 32, 1 + 8 + 32);
        Edges.refused("none of these", Due.ARGUMENT, FULL, town -> design.of(town, 1 + 8 + 32, 0, 1, 0));
        Edges.refused("another one", Due.ARGUMENT, FULL, town -> design.of(town, 1 + 8 + 32, 2, 1, 0));
        Edges.refused("one of these and another one", Due.ARGUMENT, FULL, town -> design.of(town, 1 + 8, 1 + 32, 1, 0));
        Edges.says("- `days`: 1 to 30");
        Edges.range("days", Due.ARGUMENT, FULL, 1, 30, (town, days) -> design.of(town, 7, 7, days, 0));
        Edges.says("- `trait`: 0 to 3");
        Edges.range("trait", Due.ARGUMENT, FULL, 0, 3, (town, trait) -> design.of(town, 7, 7, 2, trait));
    }

    private static void taken(String what, Design design, Edges.Town town, int factors, int some) {
        Object answer = Due.answerOf(() -> design.of(town.make(), factors, some, 30, 0));
        Edges.same(what + " is taken", true, answer instanceof Integer);
    }

    private static void refuses(Design design) throws Exception {
        Edges.says("Throws `IndexOutOfBoundsException` if a bit is that of no rule");
        Edges.refused("of none", Due.BOUNDS, EMPTY, town -> design.of(town, 1, 1, 1, 0));
        Edges.refused("the fifth of four", Due.BOUNDS, ORDINARY, town -> design.of(town, 16, 16, 1, 0));
        Edges.refused("the seventh of six", Due.BOUNDS, FULL, town -> design.of(town, 64, 64, 1, 0));
        Edges.refused("the seventh and the first", Due.BOUNDS, FULL, town -> design.of(town, 65, 1, 1, 0));
        Edges.refused("the sign's bit", Due.BOUNDS, FULL, town -> design.of(town, Integer.MIN_VALUE, 1, 1, 0));
        Edges.refused("all bits", Due.BOUNDS, FULL, town -> design.of(town, -1, 1, 1, 0));
        Edges.refused("all bits but the sign's", Due.BOUNDS, FULL, town -> design.of(town, Integer.MAX_VALUE, 1, 1, 0));
        Edges.says("Throws `IllegalArgumentException` if there are no factors, or more than 3, some are none of these, or"
                + " there are none, or a number is out of range");
        Edges.refused("no factors of no rules", Due.ARGUMENT, EMPTY, town -> design.of(town, 0, 0, 1, 0));
        Edges.refused("no days", Due.ARGUMENT, FULL, town -> design.of(town, 7, 7, 0, 0));
        Edges.refused("31 days", Due.ARGUMENT, ENDED, town -> design.of(town, 7, 7, 31, 0));
        Edges.refused("the trait 4", Due.ARGUMENT, ENDED, town -> design.of(town, 7, 7, 1, 4));
        Edges.says("Throws `UnsupportedOperationException` if there are no people");
        Edges.refused("one factor", Due.UNSUPPORTED, UNPEOPLED, town -> design.of(town, 1, 1, 1, 0));
        Edges.refused("all factors", Due.UNSUPPORTED, UNPEOPLED, town -> design.of(town, 3, 3, 30, 3));
    }

    private static void refusesInOrder(Design design) throws Exception {
        Edges.refused("no rule ahead of four factors", Due.BOUNDS, FULL, town -> design.of(town, 64 + 15, 1, 1, 0));
        Edges.refused("no rule ahead of none of these", Due.BOUNDS, FULL, town -> design.of(town, 64, 0, 1, 0));
        Edges.refused("no rule ahead of others", Due.BOUNDS, FULL, town -> design.of(town, 65, 2, 1, 0));
        Edges.refused("no rule ahead of the days", Due.BOUNDS, FULL, town -> design.of(town, 64, 64, 0, 0));
        Edges.refused("no rule ahead of the trait", Due.BOUNDS, FULL, town -> design.of(town, 64, 64, 1, 4));
        Edges.refused("no rule ahead of no people", Due.BOUNDS, UNPEOPLED, town -> design.of(town, 4, 4, 1, 0));
        Edges.refused("no rule ahead of all", Due.BOUNDS, EMPTY, town -> design.of(town, -1, 0, 31, -1));
        Edges.refused("no factors ahead of no people", Due.ARGUMENT, EMPTY, town -> design.of(town, 0, 0, 1, 0));
        Edges.refused("others ahead of no people", Due.ARGUMENT, UNPEOPLED, town -> design.of(town, 1, 2, 1, 0));
        Edges.refused("none of these ahead of no people", Due.ARGUMENT, UNPEOPLED, town -> design.of(town, 1, 0, 1, 0));
        Edges.refused("the days ahead of no people", Due.ARGUMENT, UNPEOPLED, town -> design.of(town, 1, 1, 31, 0));
        Edges.refused("the trait ahead of no people", Due.ARGUMENT, UNPEOPLED, town -> design.of(town, 1, 1, 1, 4));
        Edges.refused("four factors ahead of no people", Due.ARGUMENT, DesignEdgesTest::withSixRulesOnly,
                town -> design.of(town, 15, 1, 1, 0));
        Edges.allSaid();
    }

    private static Madeham withSixRulesOnly() {
        Madeham town = new Madeham();
        for (int rule = 0; rule < 6; rule++) {
            town.addRule('a', 0, 0, 0, rule, 100);
        }
        return town;
    }
}
