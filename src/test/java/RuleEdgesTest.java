import java.math.BigInteger;

/** The boundary cases of the promises 14 to 19: rules, the mode, the seed and draws. */
public final class RuleEdgesTest {
    private static final Edges.Town EMPTY = Towns::empty;
    private static final Edges.Town ORDINARY = Towns::ordinary;
    private static final Edges.Town PASSED = Towns::passed;
    private static final Edges.Town FULL = Towns::full;
    private static final Edges.Town ENDED = Towns::ended;
    private static final char[] NO_KINDS = {'b', '`', 'h', 'j', 's', 'u', 'A', 'I', 'T', 0, 'a' + 256, 65535};

    public static void main(String[] args) throws Exception {
        addRule();
        addRuleNumbers();
        addRuleRefuses();
        addRuleRefusesInOrder();
        setOn();
        setOnRefuses();
        setAmount();
        setAmountRefuses();
        setMode();
        setSeed();
        setSeedRefuses();
        draw();
        drawEnds();
        Due.end();
    }

    private static void addRule() throws Exception {
        Edges.promise(14);
        Edges.says("Adds a rule.");
        Edges.answers("it is on", true, EMPTY, town -> {
            town.addRule('a', 0, 0, 0, 0, 0);
            return town.setOn(0, false);
        });
        Edges.says("- `kind`: 'a', 'i' or 't'");
        Edges.answers("'a'", 4, ORDINARY, town -> town.addRule('a', 0, 0, 0, 0, 0));
        Edges.answers("'i'", 4, ORDINARY, town -> town.addRule('i', 0, 0, 0, 0, 0));
        Edges.answers("'t'", 4, ORDINARY, town -> town.addRule('t', 0, 0, 0, 0, 0));
        for (char kind : NO_KINDS) {
            Edges.refused("the kind " + (int) kind, Due.ARGUMENT, ORDINARY, town -> town.addRule(kind, 0, 0, 0, 0, 0));
        }
        Edges.says("- `trait`: 0 to 3");
        Edges.range("trait", Due.ARGUMENT, ORDINARY, 0, 3, (town, trait) -> town.addRule('a', trait, 0, 0, 0, 0));
        Edges.says("- `guard`: the trait of the guard, 0 to 3");
        Edges.range("guard", Due.ARGUMENT, ORDINARY, 0, 3, (town, guard) -> town.addRule('a', 0, guard, 0, 0, 0));
        Edges.range("guard of 't', not looked at", Due.ARGUMENT, ORDINARY, 0, 3,
                (town, guard) -> town.addRule('t', 0, guard, 0, 0, 0));
    }

    private static void addRuleNumbers() throws Exception {
        Edges.says("- `limit`: 0 to 99");
        Edges.range("limit", Due.ARGUMENT, ORDINARY, 0, 99, (town, limit) -> town.addRule('a', 0, 0, limit, 0, 0));
        Edges.range("limit of 't'", Due.ARGUMENT, ORDINARY, 0, 99, (town, limit) -> town.addRule('t', 0, 0, limit, 0, 0));
        Edges.says("- `amount`: -9 to 9");
        Edges.range("amount", Due.ARGUMENT, ORDINARY, -9, 9, (town, amount) -> town.addRule('a', 0, 0, 0, amount, 0));
        Edges.range("amount of 'i'", Due.ARGUMENT, ORDINARY, -9, 9, (town, amount) -> town.addRule('i', 0, 0, 0, amount, 0));
        Edges.answers("the least", -9, EMPTY, town -> {
            town.addRule('a', 0, 0, 0, -9, 0);
            return town.setAmount(0, 0);
        });
        Edges.answers("the most", 9, EMPTY, town -> {
            town.addRule('a', 0, 0, 0, 9, 0);
            return town.setAmount(0, 0);
        });
        Edges.says("- `chance`: 0 to 100");
        Edges.range("chance", Due.ARGUMENT, ORDINARY, 0, 100, (town, chance) -> town.addRule('a', 0, 0, 0, 0, chance));
        Edges.says("Returns its number.");
        Edges.answers("the first is 0", 0, EMPTY, town -> town.addRule('a', 3, 3, 99, 9, 100));
        Edges.answers("the fifth is 4", 4, ORDINARY, town -> town.addRule('a', 3, 3, 99, 9, 100));
        Edges.answers("the sixth is 5", 5, RuleEdgesTest::withFiveRules, town -> town.addRule('a', 0, 0, 0, -9, 0));
    }

    private static Madeham withFiveRules() {
        Madeham town = Towns.ordinary();
        town.addRule('i', 0, 0, 0, 0, 0);
        return town;
    }

    private static void addRuleRefuses() throws Exception {
        Edges.says("Throws `IllegalArgumentException` if there is no such kind, or a number is out of range");
        Edges.refused("all", Due.ARGUMENT, EMPTY, town -> town.addRule('x', 4, -1, 100, -10, 101));
        Edges.refused("the kind", Due.ARGUMENT, EMPTY, town -> town.addRule('x', 3, 3, 99, 9, 100));
        Edges.says("Throws `UnsupportedOperationException` if a day went by");
        Edges.refused("three days", Due.UNSUPPORTED, PASSED, town -> town.addRule('a', 0, 0, 0, 0, 0));
        Edges.refused("one day", Due.UNSUPPORTED, () -> {
            Madeham town = Towns.ofOnePlace(1);
            town.pass(1);
            return town;
        }, town -> town.addRule('a', 0, 0, 0, 0, 0));
        Edges.answers("reset", 4, PASSED, town -> {
            town.reset();
            return town.addRule('a', 0, 0, 0, 0, 0);
        });
        Edges.says("Throws `IllegalStateException` if there are 6");
        Edges.refused("six", Due.STATE, FULL, town -> town.addRule('a', 0, 0, 0, 0, 0));
        Edges.refused("six, and nobody", Due.STATE, () -> {
            Madeham town = new Madeham();
            for (int rule = 0; rule < 6; rule++) {
                town.addRule('t', 0, 0, 0, 0, 0);
            }
            return town;
        }, town -> town.addRule('i', 3, 3, 99, 9, 100));
        Edges.refused("six, some off", Due.STATE, () -> {
            Madeham town = Towns.full();
            town.setOn(5, false);
            return town;
        }, town -> town.addRule('a', 0, 0, 0, 0, 0));
    }

    private static void addRuleRefusesInOrder() throws Exception {
        Edges.refused("the kind ahead of the day", Due.ARGUMENT, PASSED, town -> town.addRule('x', 0, 0, 0, 0, 0));
        Edges.refused("the trait ahead of the day", Due.ARGUMENT, PASSED, town -> town.addRule('a', 4, 0, 0, 0, 0));
        Edges.refused("the guard ahead of the day", Due.ARGUMENT, PASSED, town -> town.addRule('a', 0, 4, 0, 0, 0));
        Edges.refused("the limit ahead of the day", Due.ARGUMENT, PASSED, town -> town.addRule('a', 0, 0, 100, 0, 0));
        Edges.refused("the amount ahead of the day", Due.ARGUMENT, PASSED, town -> town.addRule('a', 0, 0, 0, 10, 0));
        Edges.refused("the chance ahead of the day", Due.ARGUMENT, PASSED, town -> town.addRule('a', 0, 0, 0, 0, 101));
        Edges.refused("the kind ahead of six", Due.ARGUMENT, FULL, town -> town.addRule('x', 0, 0, 0, 0, 0));
        Edges.refused("the trait ahead of six", Due.ARGUMENT, FULL, town -> town.addRule('a', -1, 0, 0, 0, 0));
        Edges.refused("the guard ahead of six", Due.ARGUMENT, FULL, town -> town.addRule('a', 0, -1, 0, 0, 0));
        Edges.refused("the limit ahead of six", Due.ARGUMENT, FULL, town -> town.addRule('a', 0, 0, -1, 0, 0));
        Edges.refused("the amount ahead of six", Due.ARGUMENT, FULL, town -> town.addRule('a', 0, 0, 0, -10, 0));
        Edges.refused("the chance ahead of six", Due.ARGUMENT, FULL, town -> town.addRule('a', 0, 0, 0, 0, -1));
        Edges.refused("the day ahead of six", Due.UNSUPPORTED, ENDED, town -> town.addRule('a', 0, 0, 0, 0, 0));
        Edges.refused("the kind ahead of all", Due.ARGUMENT, ENDED, town -> town.addRule('x', 0, 0, 0, 0, 0));
        Edges.allSaid();
    }

    private static void setOn() throws Exception {
        Edges.promise(15);
        Edges.says("Tells whether a rule is on.");
        Edges.answers("off", false, ORDINARY, town -> {
            town.setOn(0, false);
            return town.setOn(0, true);
        });
        Edges.answers("on", true, ORDINARY, town -> {
            town.setOn(3, true);
            return town.setOn(3, true);
        });
        Edges.answers("others stay", true, FULL, town -> {
            town.setOn(4, false);
            return town.setOn(5, true);
        });
        Edges.says("- `rule`: the rule");
        Edges.answers("the first", true, FULL, town -> town.setOn(0, false));
        Edges.answers("the last of four", false, ORDINARY, town -> town.setOn(3, true));
        Edges.answers("the last of six", false, FULL, town -> {
            town.setOn(5, false);
            return town.setOn(5, false);
        });
        Edges.says("- `is`: whether it is on");
        Edges.answers("twice", true, FULL, town -> {
            town.setOn(5, true);
            return town.setOn(5, true);
        });
        Edges.says("Returns whether it was.");
        Edges.answers("on at first", true, EMPTY, town -> {
            town.addRule('t', 0, 0, 99, 0, 0);
            return town.setOn(0, true);
        });
    }

    private static void setOnRefuses() throws Exception {
        Edges.says("Throws `IndexOutOfBoundsException` if there is no such rule");
        Edges.refused("of none", Due.BOUNDS, EMPTY, town -> town.setOn(0, true));
        Edges.beyond("of four", Due.BOUNDS, ORDINARY, 0, 3, (town, rule) -> town.setOn(rule, false));
        Edges.beyond("of six", Due.BOUNDS, FULL, 0, 5, (town, rule) -> town.setOn(rule, false));
        Edges.says("Throws `UnsupportedOperationException` if a day went by");
        Edges.refused("three days", Due.UNSUPPORTED, PASSED, town -> town.setOn(0, false));
        Edges.refused("to turn it on", Due.UNSUPPORTED, PASSED, town -> town.setOn(3, true));
        Edges.refused("as it is", Due.UNSUPPORTED, PASSED, town -> town.setOn(0, true));
        Edges.refused("all days", Due.UNSUPPORTED, ENDED, town -> town.setOn(5, false));
        Edges.answers("reset", false, PASSED, town -> {
            town.reset();
            return town.setOn(3, true);
        });
        Edges.refused("no rule ahead of the day", Due.BOUNDS, PASSED, town -> town.setOn(4, false));
        Edges.refused("no rule below ahead of the day", Due.BOUNDS, PASSED, town -> town.setOn(-1, false));
        Edges.allSaid();
    }

    private static void setAmount() throws Exception {
        Edges.promise(16);
        Edges.says("Sets the amount of a rule.");
        Edges.answers("it acts by it", 39, ORDINARY, town -> {
            town.setOn(1, false);
            town.setAmount(0, 9);
            town.pass(1);
            return town.trait(1, 0);
        });
        Edges.says("- `rule`: the rule");
        Edges.answers("the first", 5, ORDINARY, town -> town.setAmount(0, 1));
        Edges.answers("the last of four", -2, ORDINARY, town -> town.setAmount(3, 1));
        Edges.answers("the last of six", 2, FULL, town -> town.setAmount(5, 1));
        Edges.says("- `amount`: -9 to 9");
        Edges.range("amount", Due.ARGUMENT, ORDINARY, -9, 9, (town, amount) -> town.setAmount(3, amount));
        Edges.says("Returns the one before.");
        Edges.answers("the least", -9, ORDINARY, town -> {
            town.setAmount(2, -9);
            return town.setAmount(2, 9);
        });
        Edges.answers("the most", 9, ORDINARY, town -> {
            town.setAmount(2, 9);
            return town.setAmount(2, -9);
        });
        Edges.answers("none", 0, ORDINARY, town -> {
            town.setAmount(2, 0);
            return town.setAmount(2, 0);
        });
    }

    private static void setAmountRefuses() throws Exception {
        Edges.says("Throws `IndexOutOfBoundsException` if there is no such rule");
        Edges.refused("of none", Due.BOUNDS, EMPTY, town -> town.setAmount(0, 0));
        Edges.beyond("of four", Due.BOUNDS, ORDINARY, 0, 3, (town, rule) -> town.setAmount(rule, 1));
        Edges.beyond("of six", Due.BOUNDS, FULL, 0, 5, (town, rule) -> town.setAmount(rule, 1));
        Edges.says("Throws `IllegalArgumentException` if a number is out of range");
        Edges.refused("10", Due.ARGUMENT, FULL, town -> town.setAmount(0, 10));
        Edges.refused("-10", Due.ARGUMENT, FULL, town -> town.setAmount(5, -10));
        Edges.says("Throws `UnsupportedOperationException` if a day went by");
        Edges.refused("three days", Due.UNSUPPORTED, PASSED, town -> town.setAmount(0, 1));
        Edges.refused("as it is", Due.UNSUPPORTED, PASSED, town -> town.setAmount(0, 5));
        Edges.refused("all days", Due.UNSUPPORTED, ENDED, town -> town.setAmount(5, 1));
        Edges.answers("reset", 5, PASSED, town -> {
            town.reset();
            return town.setAmount(0, 1);
        });
        Edges.refused("no rule ahead of the amount", Due.BOUNDS, ORDINARY, town -> town.setAmount(4, 10));
        Edges.refused("no rule ahead of the day", Due.BOUNDS, PASSED, town -> town.setAmount(4, 1));
        Edges.refused("no rule ahead of all", Due.BOUNDS, PASSED, town -> town.setAmount(-1, -10));
        Edges.refused("the amount ahead of the day", Due.ARGUMENT, PASSED, town -> town.setAmount(0, 10));
        Edges.allSaid();
    }

    private static void setMode() throws Exception {
        Edges.promise(17);
        Edges.says("Sets the mode.");
        Edges.answers("'a'", 'a', EMPTY, town -> {
            town.setMode('a');
            return town.setMode('a');
        });
        Edges.answers("'t'", 't', ORDINARY, town -> {
            town.setMode('t');
            return town.setMode('t');
        });
        Edges.says("- `mode`: 'a' or 't'");
        Edges.answers("'a' is taken", 't', FULL, town -> town.setMode('a'));
        Edges.answers("'t' is taken", 'a', ORDINARY, town -> town.setMode('t'));
        Edges.says("Returns the one before.");
        Edges.answers("'t' at first", 't', EMPTY, town -> town.setMode('t'));
        Edges.says("Throws `IllegalArgumentException` if there is no such mode");
        for (char mode : NO_KINDS) {
            Edges.refused("the mode " + (int) mode, Due.ARGUMENT, ORDINARY, town -> town.setMode(mode));
        }
        Edges.refused("the kind 'i'", Due.ARGUMENT, ORDINARY, town -> town.setMode('i'));
        Edges.says("Throws `UnsupportedOperationException` if a day went by");
        Edges.refused("three days", Due.UNSUPPORTED, PASSED, town -> town.setMode('t'));
        Edges.refused("as it is", Due.UNSUPPORTED, PASSED, town -> town.setMode('a'));
        Edges.refused("all days", Due.UNSUPPORTED, ENDED, town -> town.setMode('a'));
        Edges.answers("reset", 'a', PASSED, town -> {
            town.reset();
            return town.setMode('t');
        });
        Edges.refused("no mode ahead of the day", Due.ARGUMENT, PASSED, town -> town.setMode('i'));
        Edges.allSaid();
    }

    private static void setSeed() throws Exception {
        Edges.promise(18);
        Edges.says("Sets the seed, which does not change traits that are there.");
        Edges.answers("traits stay", 10, ORDINARY, town -> {
            town.setSeed(78);
            return town.trait(0, 0);
        });
        Edges.answers("traits as drawn stay", 14, () -> Towns.ofOnePlace(1), town -> {
            town.setSeed(2);
            return town.trait(0, 0);
        });
        Edges.answers("they stay behind a reset", 14, () -> Towns.ofOnePlace(1), town -> {
            town.setSeed(2);
            town.pass(1);
            town.reset();
            return town.trait(0, 0);
        });
        Edges.answers("people that are made anew are drawn by it", drawn(2, 0, 0, 100), () -> Towns.ofOnePlace(1), town -> {
            town.setSeed(2);
            town.make();
            return town.trait(0, 0);
        });
        Edges.says("- `seed`: 1 to 999999");
        Edges.range("seed", Due.ARGUMENT, ORDINARY, 1, 999999, Madeham::setSeed);
        Edges.says("Returns the one before.");
        Edges.answers("1 at first", 1, EMPTY, town -> town.setSeed(1));
        Edges.answers("the least", 1, ORDINARY, town -> {
            town.setSeed(1);
            return town.setSeed(999999);
        });
        Edges.answers("the most", 999999, ORDINARY, town -> {
            town.setSeed(999999);
            return town.setSeed(1);
        });
    }

    private static void setSeedRefuses() throws Exception {
        Edges.says("Throws `IllegalArgumentException` if a number is out of range");
        Edges.refused("0", Due.ARGUMENT, EMPTY, town -> town.setSeed(0));
        Edges.refused("1000000", Due.ARGUMENT, EMPTY, town -> town.setSeed(1000000));
        Edges.says("Throws `UnsupportedOperationException` if a day went by");
        Edges.refused("three days", Due.UNSUPPORTED, PASSED, town -> town.setSeed(5));
        Edges.refused("as it is", Due.UNSUPPORTED, PASSED, town -> town.setSeed(77));
        Edges.refused("all days", Due.UNSUPPORTED, ENDED, town -> town.setSeed(2));
        Edges.answers("reset", 77, PASSED, town -> {
            town.reset();
            return town.setSeed(5);
        });
        Edges.refused("0 ahead of the day", Due.ARGUMENT, PASSED, town -> town.setSeed(0));
        Edges.refused("1000000 ahead of the day", Due.ARGUMENT, PASSED, town -> town.setSeed(1000000));
        Edges.allSaid();
    }

    /** By whole numbers without a bound. */
    private static int drawn(long seed, long person, long day, long purpose) {
        BigInteger sum = BigInteger.valueOf(31 * seed + 7919 * person + 104729 * day + 1299709 * purpose);
        BigInteger m = sum.multiply(BigInteger.valueOf(48271)).mod(BigInteger.valueOf(2147483647));
        return m.mod(BigInteger.valueOf(100)).intValue();
    }

    private static void draw() throws Exception {
        Edges.promise(19);
        Edges.says("Returns a draw.");
        Edges.answers("of a middle one", drawn(77, 7, 31, 99), ORDINARY, town -> town.draw(7, 31, 99));
        Edges.says("- `person`: 0 to 19");
        Edges.range("person", Due.ARGUMENT, EMPTY, 0, 19, (town, person) -> town.draw(person, 1, 1));
        Edges.answers("one who is not there", drawn(1, 19, 1, 1), EMPTY, town -> town.draw(19, 1, 1));
        Edges.says("- `day`: 0 to 60");
        Edges.range("day", Due.ARGUMENT, ORDINARY, 0, 60, (town, day) -> town.draw(1, day, 1));
        Edges.answers("the last", drawn(1, 1, 60, 1), ENDED, town -> town.draw(1, 60, 1));
        Edges.says("- `purpose`: 0 to 199");
        Edges.range("purpose", Due.ARGUMENT, FULL, 0, 199, (town, purpose) -> town.draw(1, 1, purpose));
        Edges.answers("the last", drawn(1, 1, 1, 199), FULL, town -> town.draw(1, 1, 199));
        Edges.says("Throws `IllegalArgumentException` if a number is out of range");
        Edges.refused("all", Due.ARGUMENT, EMPTY, town -> town.draw(20, 61, 200));
        Edges.refused("all below", Due.ARGUMENT, ENDED, town -> town.draw(-1, -1, -1));
    }

    /** Draws of 0 and of 99, and those of the least and of the most numbers. */
    private static void drawEnds() throws Exception {
        Edges.says("Returns 0 to 99.");
        int found = 0;
        for (int purpose = 0; purpose < 200; purpose++) {
            for (int end : new int[] {0, 99}) {
                int which = purpose;
                if (drawn(999999, 19, 60, purpose) == end) {
                    Edges.answers("an end", end, RuleEdgesTest::withMostSeed, town -> town.draw(19, 60, which));
                    found |= end == 0 ? 1 : 2;
                }
            }
        }
        Edges.same("both ends are found", 3, found);
        Edges.answers("the least of all", drawn(1, 0, 0, 0), EMPTY, town -> town.draw(0, 0, 0));
        Edges.answers("the most of all", drawn(999999, 19, 60, 199), RuleEdgesTest::withMostSeed,
                town -> town.draw(19, 60, 199));
        Edges.allSaid();
    }

    private static Madeham withMostSeed() {
        Madeham town = new Madeham();
        town.setSeed(999999);
        return town;
    }
}
