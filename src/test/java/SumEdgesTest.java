import java.util.ArrayList;
import java.util.List;

/** The boundary cases of the promises 36 to 40: sums that go round, shares, ways and soundness. */
public final class SumEdgesTest {
    private static final Edges.Town EMPTY = Towns::empty;
    private static final Edges.Town UNPEOPLED = Towns::unpeopled;
    private static final Edges.Town ORDINARY = Towns::ordinary;
    private static final Edges.Town PASSED = Towns::passed;
    private static final Edges.Town FULL = Towns::full;
    private static final Edges.Town ENDED = Towns::ended;

    public static void main(String[] args) throws Exception {
        hash();
        hashOfFull();
        checksum();
        shareBits();
        shareBitsRefuses();
        meanWay();
        isSound();
        Due.end();
    }

    private static void hash() throws Exception {
        Edges.promise(36);
        Edges.says("Returns a number that stands for all that runs go by.");
        long before = Towns.ordinary().hash();
        Edges.answers("days do not count", before, PASSED, Madeham::hash);
        Edges.answers("figures do not", before, ORDINARY, town -> {
            town.tell(60, 9900, true);
            return town.hash();
        });
        Edges.answers("margins do not", before, ORDINARY, town -> {
            town.setGroup(0, 20);
            town.setHomes(0, 20);
            return town.hash();
        });
        Edges.says("Returns 7 at first, then for each place and each one behind it 31 times itself plus the minutes of their"
                + " link, 0 without; for each person 31 times itself plus the home, then plus the work, then each trait as"
                + " the first day began, then the sum of 1 shifted by the number of each person with whom there is a tie;"
                + " for each rule 31 times itself plus the kind, as a number, then plus the trait, the guard, the limit, the"
                + " amount, the chance, 1 if it is on; then 31 times itself plus the mode, as a number, then plus the seed,"
                + " all likewise.");
        Edges.answers("nothing", (7L * 31 + 't') * 31 + 1, EMPTY, Madeham::hash);
        Edges.answers("one place has no pair", (7L * 31 + 't') * 31 + 1, EMPTY, town -> {
            town.addPlace();
            return town.hash();
        });
        Edges.answers("two places without a link", (7L * 31 * 31 + 't') * 31 + 1, EMPTY, town -> {
            town.addPlace();
            town.addPlace();
            return town.hash();
        });
    }

    /** What the document names of the full town, in its order; by answers of the town on the day 0 where it has them. */
    private static List<Integer> fullParts() {
        Madeham town = Towns.full();
        List<Integer> parts = new ArrayList<>();
        for (int place = 0; place < 5; place++) {
            for (int other = place + 1; other < 5; other++) {
                parts.add(other == place + 1 ? 60 : 0);
            }
        }
        for (int person = 0; person < 20; person++) {
            parts.add(town.home(person));
            parts.add(person == 19 ? 4 : 0);
            for (int trait = 0; trait < 4; trait++) {
                parts.add(town.trait(person, trait));
            }
            parts.add(person == 0 ? 1 << 19 : person == 19 ? 1 : 0);
        }
        for (int rule = 0; rule < 6; rule++) {
            parts.addAll(List.of((int) "ait".charAt(rule % 3), rule % 4, (rule + 1) % 4, 10 * rule, rule - 3));
            parts.add(100 - 10 * rule);
            parts.add(1);
        }
        parts.add((int) 't');
        parts.add(1);
        return parts;
    }

    private static void hashOfFull() throws Exception {
        List<Integer> parts = fullParts();
        Edges.same("it goes round", true, Edges.goesRound(7, parts));
        Edges.answers("the full town", Edges.folded(7, parts), FULL, Madeham::hash);
        Edges.answers("the full town behind all days", Edges.folded(7, parts), ENDED, Madeham::hash);
        for (int rule = 0; rule < 6; rule++) {
            int which = rule;
            parts.set(10 + 7 * 20 + 7 * rule + 6, 0);
            Edges.answers("a rule that is off", Edges.folded(7, parts), FULL, town -> {
                town.setOn(which, false);
                return town.hash();
            });
            parts.set(10 + 7 * 20 + 7 * rule + 6, 1);
        }
        for (int person = 0; person < 20; person++) {
            parts.set(10 + 7 * person + 6, (1 << 20) - 1 - (1 << person));
        }
        Edges.answers("all ties", Edges.folded(7, parts), FULL, town -> {
            for (int person = 0; person < 20; person++) {
                for (int other = 0; other < person; other++) {
                    town.tie(person, other, true);
                }
            }
            return town.hash();
        });
        Edges.allSaid();
    }

    /** The traits of a town, and the days that went by. */
    private static List<Integer> traits(Madeham town, int people, int days) {
        List<Integer> parts = new ArrayList<>();
        for (int person = 0; person < people; person++) {
            for (int trait = 0; trait < 4; trait++) {
                parts.add(town.trait(person, trait));
            }
        }
        parts.add(days);
        return parts;
    }

    private static void checksum() throws Exception {
        Edges.promise(37);
        Edges.says("Returns a sum over the town.");
        Edges.answers("what is told does not count", Towns.ordinary().checksum(), ORDINARY, town -> {
            town.setSeed(3);
            town.setAmount(0, 9);
            town.setWork(0, 1);
            return town.checksum();
        });
        Edges.says("Returns 7 at first, then for each person 31 times itself plus each trait, likewise; then 31 times itself"
                + " plus the days that went by.");
        Edges.answers("nobody", 7L * 31, EMPTY, Madeham::checksum);
        Edges.answers("nobody, but rules", 7L * 31, UNPEOPLED, Madeham::checksum);
        List<Integer> first = traits(Towns.full(), 20, 0);
        Edges.same("it goes round", true, Edges.goesRound(7, first));
        Edges.answers("twenty", Edges.folded(7, first), FULL, Madeham::checksum);
        Edges.answers("behind all days", Edges.folded(7, traits(Towns.ended(), 20, 60)), ENDED, Madeham::checksum);
        Edges.answers("behind three days", Edges.folded(7, traits(Towns.passed(), 5, 3)), PASSED, Madeham::checksum);
        Edges.answers("reset", Edges.folded(7, first), ENDED, town -> {
            town.reset();
            return town.checksum();
        });
        Edges.allSaid();
    }

    private static void shareBits() throws Exception {
        Edges.promise(38);
        Edges.says("Returns the bits of the share of people whose trait is 50 or more, as Float.floatToIntBits tells them.");
        Edges.answers("50 counts", Float.floatToIntBits(1f), () -> Towns.with(50), town -> town.shareBits(0));
        Edges.answers("49 does not", 0, () -> Towns.with(49), town -> town.shareBits(0));
        Edges.answers("99 counts", Float.floatToIntBits(0.5f), () -> Towns.with(0, 99), town -> town.shareBits(0));
        Edges.says("- `trait`: 0 to 3");
        Edges.range("trait", Due.ARGUMENT, ENDED, 0, 3, Madeham::shareBits);
        Edges.says("Returns the bits of their number divided by that of all, both converted to float.");
        Edges.answers("none of twenty", 0, () -> Towns.with(new int[20]), town -> town.shareBits(0));
        Edges.answers("the least share", Float.floatToIntBits(1f / 20f), () -> Towns.with(new int[20]), town -> {
            town.setTrait(19, 0, 50);
            return town.shareBits(0);
        });
        Edges.answers("a third", Float.floatToIntBits(1f / 3f), () -> Towns.with(0, 60, 0), town -> town.shareBits(0));
        Edges.answers("all but one of twenty", Float.floatToIntBits(19f / 20f), () -> Towns.with(new int[20]), town -> {
            for (int person = 0; person < 19; person++) {
                town.setTrait(person, 0, 50);
            }
            return town.shareBits(0);
        });
    }

    private static void shareBitsRefuses() throws Exception {
        Edges.says("Throws `IllegalArgumentException` if a number is out of range");
        Edges.refused("4", Due.ARGUMENT, FULL, town -> town.shareBits(4));
        Edges.refused("-1", Due.ARGUMENT, FULL, town -> town.shareBits(-1));
        Edges.says("Throws `ArithmeticException` if there are no people");
        Edges.refused("an empty town", Due.ARITHMETIC, EMPTY, town -> town.shareBits(0));
        Edges.refused("only rules and places", Due.ARITHMETIC, UNPEOPLED, town -> town.shareBits(3));
        Edges.refused("the trait ahead of no people", Due.ARGUMENT, EMPTY, town -> town.shareBits(4));
        Edges.refused("a trait below ahead of no people", Due.ARGUMENT, UNPEOPLED, town -> town.shareBits(-1));
        Edges.allSaid();
    }

    private static void meanWay() throws Exception {
        Edges.promise(39);
        Edges.says("Returns the mean way from home to work.");
        // 35 of the person 0, 0, 20 and 20 of those who live at the place 1, and 15 of the last one
        Edges.answers("of five", 90.0 / 5.0, ORDINARY, Madeham::meanWay);
        Edges.says("Returns the sum divided by the number of people, both converted to double.");
        Edges.answers("all at home", 0.0, () -> Towns.ofOnePlace(20), Madeham::meanWay);
        Edges.answers("one without a way", 999.0, SumEdgesTest::withoutWay, Madeham::meanWay);
        Edges.answers("a third", 1.0 / 3.0, () -> Towns.ofOnePlace(3), town -> {
            town.addPlace();
            town.link(0, 1, 1);
            town.setWork(2, 1);
            return town.meanWay();
        });
        Edges.answers("twenty without a way", 999.0, () -> {
            Madeham town = Towns.ofOnePlace(20);
            town.addPlace();
            for (int person = 0; person < 20; person++) {
                town.setWork(person, 1);
            }
            return town;
        }, Madeham::meanWay);
        Edges.answers("days change nothing", 18.0, PASSED, Madeham::meanWay);
        Edges.says("Throws `ArithmeticException` if there are no people");
        Edges.refused("an empty town", Due.ARITHMETIC, EMPTY, Madeham::meanWay);
        Edges.refused("only rules and places", Due.ARITHMETIC, UNPEOPLED, Madeham::meanWay);
        Edges.allSaid();
    }

    private static Madeham withoutWay() {
        Madeham town = Towns.ofOnePlace(1);
        town.addPlace();
        town.setWork(0, 1);
        return town;
    }

    private static void isSound() throws Exception {
        Edges.promise(40);
        Edges.says("Checks the town: people fit the margins by which they were made; traits are 0 to 99; a run in thought of"
                + " as many days as went by has the traits of now; ways are not longer than any by a place between; and ties"
                + " are the same both ways.");
        Edges.answers("margins told anew", true, ENDED, town -> {
            town.setGroup(0, 20);
            town.setHomes(4, 0);
            return town.isSound();
        });
        Edges.answers("traits at both ends", true, () -> Towns.with(0, 99), town -> {
            town.addRule('a', 0, 0, 50, 9, 100);
            town.addRule('a', 0, 1, 0, -1, 100);
            town.pass(30);
            return town.isSound();
        });
        Edges.answers("a trait set anew behind a reset", true, PASSED, town -> {
            town.reset();
            town.setTrait(0, 0, 99);
            town.pass(30);
            return town.isSound();
        });
        Edges.answers("ways without links", true, FULL, town -> {
            town.link(1, 2, 0);
            town.link(0, 4, 1);
            return town.isSound();
        });
        Edges.answers("a link that is longer than a way by a place between", true, ORDINARY, town -> {
            town.link(0, 2, 60);
            return town.isSound();
        });
        Edges.says("Returns true if so.");
        Edges.answers("nothing", true, EMPTY, Madeham::isSound);
        Edges.answers("nobody", true, UNPEOPLED, Madeham::isSound);
        Edges.answers("no day", true, FULL, Madeham::isSound);
        Edges.answers("three days", true, PASSED, Madeham::isSound);
        Edges.answers("all days", true, ENDED, Madeham::isSound);
        Edges.allSaid();
    }
}
