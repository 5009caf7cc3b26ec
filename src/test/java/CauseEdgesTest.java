/** The boundary cases of the promises 32 to 35: causes, differences and the least amount. */
public final class CauseEdgesTest {
    private static final Edges.Town EMPTY = Towns::empty;
    private static final Edges.Town UNPEOPLED = Towns::unpeopled;
    private static final Edges.Town ORDINARY = Towns::ordinary;
    private static final Edges.Town PASSED = Towns::passed;
    private static final Edges.Town ENDED = Towns::ended;

    public static void main(String[] args) throws Exception {
        cause();
        causeRefuses();
        causeFor();
        causeForRefuses();
        differs();
        differsRefuses();
        least();
        leastRefuses();
        Due.end();
    }

    /** Twenty people, whose trait 0 begins at 0 and whose trait 1 at 99; by the rules 0 to 4 it becomes 9, 1, 0 or -1
     * more, or the trait 1 becomes 9 less; the rule 5 is off. */
    private static Madeham twenty(int days) {
        Madeham town = Towns.with(new int[20]);
        for (int person = 0; person < 20; person++) {
            town.setTrait(person, 1, 99);
        }
        int[] amounts = {9, 1, 0, -1};
        for (int amount : amounts) {
            town.addRule('a', 0, 0, 0, amount, 100);
        }
        town.addRule('a', 1, 1, 0, -9, 100);
        town.addRule('a', 0, 0, 0, 5, 100);
        town.setOn(5, false);
        for (int left = days; left > 0; left -= 30) {
            town.pass(Math.min(30, left));
        }
        return town;
    }

    private static void cause() throws Exception {
        Edges.promise(32);
        Edges.says("Returns what a rule causes in the mean of a trait.");
        Edges.answers("nine a day", 2700, () -> twenty(3), town -> town.cause(0, 0));
        Edges.says("- `rule`: the rule");
        Edges.answers("the first", 900, () -> twenty(1), town -> town.cause(0, 0));
        Edges.answers("the last, which is off", 0, () -> twenty(1), town -> town.cause(5, 0));
        Edges.answers("the last of four, which is off", 0, PASSED, town -> town.cause(3, 2));
        Edges.says("- `trait`: 0 to 3");
        Edges.range("trait", Due.ARGUMENT, PASSED, 0, 3, (town, trait) -> town.cause(0, trait));
        Edges.says("Returns the hundredths, by which the mean is more.");
        Edges.answers("no day", 0, () -> twenty(0), town -> town.cause(0, 0));
        Edges.answers("less", -900, () -> twenty(1), town -> town.cause(4, 1));
        Edges.answers("the most", 9900, CauseEdgesTest::byNineOnly, town -> town.cause(0, 0));
        Edges.answers("the least", -9900, () -> twenty(60), town -> town.cause(4, 1));
        Edges.answers("nothing, as 0 more", 0, () -> twenty(30), town -> town.cause(2, 0));
        Edges.answers("nothing in another trait", 0, () -> twenty(60), town -> town.cause(0, 3));
    }

    private static Madeham byNineOnly() {
        Madeham town = Towns.with(0);
        town.addRule('a', 0, 0, 0, 9, 100);
        town.pass(30);
        town.pass(30);
        return town;
    }

    private static void causeRefuses() throws Exception {
        Edges.says("Throws `IndexOutOfBoundsException` if there is no such rule");
        Edges.refused("of none", Due.BOUNDS, EMPTY, town -> town.cause(0, 0));
        Edges.beyond("of four", Due.BOUNDS, PASSED, 0, 3, (town, rule) -> town.cause(rule, 0));
        Edges.beyond("of six", Due.BOUNDS, ENDED, 0, 5, (town, rule) -> town.cause(rule, 0));
        Edges.says("Throws `IllegalArgumentException` if a number is out of range");
        Edges.refused("4", Due.ARGUMENT, ENDED, town -> town.cause(5, 4));
        Edges.refused("-1", Due.ARGUMENT, ORDINARY, town -> town.cause(0, -1));
        Edges.says("Throws `UnsupportedOperationException` if there are no people");
        Edges.refused("the first rule", Due.UNSUPPORTED, UNPEOPLED, town -> town.cause(0, 0));
        Edges.refused("the last rule", Due.UNSUPPORTED, UNPEOPLED, town -> town.cause(1, 3));
        Edges.refused("no rule ahead of the trait", Due.BOUNDS, PASSED, town -> town.cause(4, 4));
        Edges.refused("no rule ahead of no people", Due.BOUNDS, UNPEOPLED, town -> town.cause(2, 0));
        Edges.refused("no rule ahead of all", Due.BOUNDS, EMPTY, town -> town.cause(-1, -1));
        Edges.refused("the trait ahead of no people", Due.ARGUMENT, UNPEOPLED, town -> town.cause(1, 4));
        Edges.allSaid();
    }

    private static void causeFor() throws Exception {
        Edges.promise(33);
        Edges.says("Returns what the acts of a rule on one person cause in that trait of the person.");
        Edges.answers("nine a day", 27, () -> twenty(3), town -> town.causeFor(0, 7, 0));
        Edges.says("- `rule`: the rule");
        Edges.answers("the first", 9, () -> twenty(1), town -> town.causeFor(0, 0, 0));
        Edges.answers("the last, which is off", 0, () -> twenty(1), town -> town.causeFor(5, 0, 0));
        Edges.says("- `person`: the person");
        Edges.answers("the first", 18, () -> twenty(2), town -> town.causeFor(0, 0, 0));
        Edges.answers("the last", 18, () -> twenty(2), town -> town.causeFor(0, 19, 0));
        Edges.says("- `trait`: 0 to 3");
        Edges.range("trait", Due.ARGUMENT, PASSED, 0, 3, (town, trait) -> town.causeFor(0, 4, trait));
        Edges.says("Returns by how much it is more.");
        Edges.answers("no day", 0, () -> twenty(0), town -> town.causeFor(0, 19, 0));
        Edges.answers("the most", 99, CauseEdgesTest::byNineOnly, town -> town.causeFor(0, 0, 0));
        Edges.answers("the least", -99, () -> twenty(60), town -> town.causeFor(4, 19, 1));
        Edges.answers("nothing in another trait", 0, () -> twenty(60), town -> town.causeFor(0, 0, 3));
    }

    private static void causeForRefuses() throws Exception {
        Edges.says("Throws `IndexOutOfBoundsException` if there is no such rule or person");
        Edges.refused("of none", Due.BOUNDS, EMPTY, town -> town.causeFor(0, 0, 0));
        Edges.refused("of nobody", Due.BOUNDS, UNPEOPLED, town -> town.causeFor(0, 0, 0));
        Edges.refused("of people without rules", Due.BOUNDS, () -> Towns.ofOnePlace(1), town -> town.causeFor(0, 0, 0));
        Edges.beyond("rule of four", Due.BOUNDS, PASSED, 0, 3, (town, rule) -> town.causeFor(rule, 0, 0));
        Edges.beyond("rule of six", Due.BOUNDS, ENDED, 0, 5, (town, rule) -> town.causeFor(rule, 0, 0));
        Edges.beyond("person of five", Due.BOUNDS, PASSED, 0, 4, (town, person) -> town.causeFor(0, person, 0));
        Edges.beyond("person of twenty", Due.BOUNDS, ENDED, 0, 19, (town, person) -> town.causeFor(0, person, 0));
        Edges.says("Throws `IllegalArgumentException` if a number is out of range");
        Edges.refused("4", Due.ARGUMENT, ENDED, town -> town.causeFor(5, 19, 4));
        Edges.refused("-1", Due.ARGUMENT, ORDINARY, town -> town.causeFor(0, 0, -1));
        Edges.refused("no rule ahead of the trait", Due.BOUNDS, PASSED, town -> town.causeFor(4, 0, 4));
        Edges.refused("no person ahead of the trait", Due.BOUNDS, PASSED, town -> town.causeFor(0, 5, 4));
        Edges.refused("nobody ahead of the trait", Due.BOUNDS, UNPEOPLED, town -> town.causeFor(0, 0, -1));
        Edges.allSaid();
    }

    private static void differs() throws Exception {
        Edges.promise(34);
        Edges.says("Returns where the run of now and one without the rule differ first, by days, then by persons, in any"
                + " trait.");
        Edges.answers("the first person on the first day", 100, () -> twenty(3), town -> town.differs(0));
        Edges.answers("of many persons the first who differs", 102, () -> guarded(3), town -> town.differs(0));
        Edges.answers("the day ahead of the person", 119, () -> guarded(3), town -> town.differs(1));
        Edges.answers("in the last trait", 101, () -> guarded(3), town -> town.differs(2));
        Edges.says("- `rule`: the rule");
        Edges.answers("the first", 100, () -> twenty(1), town -> town.differs(0));
        Edges.answers("the last", 501, () -> guarded(5), town -> town.differs(5));
        Edges.says("Returns 100 times the day, and the person.");
        Edges.answers("the first", 100, () -> twenty(60), town -> town.differs(0));
        Edges.answers("the last person", 119, () -> guarded(60), town -> town.differs(1));
        Edges.answers("the last day", 6000, () -> lateFor(60), town -> town.differs(1));
        Edges.answers("the day before", 5900, () -> lateFor(59), town -> town.differs(1));
    }

    /** Twenty people; the trait 0 of the person 0 begins at 50, that of others at 0; the rule 0 acts on the persons from
     * 2 on, the rule 1 on the last first and on all others one day on, the rule 2 on the person 1 in the last trait, and
     * the rule 5 on the person 1 from the day 5 on. */
    private static Madeham guarded(int days) {
        Madeham town = Towns.with(new int[20]);
        for (int person = 0; person < 20; person++) {
            town.setTrait(person, 1, person < 2 ? 0 : 40);
            town.setTrait(person, 2, person == 19 ? 90 : 89);
            town.setTrait(person, 3, person == 1 ? 60 : 0);
        }
        town.addRule('a', 1, 1, 40, 1, 100);
        town.addRule('a', 2, 2, 90, -1, 100);
        town.addRule('a', 3, 3, 60, 1, 100);
        town.addRule('a', 2, 2, 0, 1, 100);
        town.addRule('a', 1, 1, 99, 0, 100);
        town.addRule('a', 3, 3, 65, 3, 100);
        town.pass(Math.min(30, days));
        if (days > 30) {
            town.pass(days - 30);
        }
        return town;
    }

    /** One person, whose trait 0 is one more a day; the rule 1 acts once the day before is past. */
    private static Madeham lateFor(int day) {
        Madeham town = Towns.with(10);
        town.addRule('a', 0, 0, 0, 1, 100);
        town.addRule('a', 1, 0, 10 + day, 1, 100);
        town.setTrait(0, 1, 0);
        town.pass(30);
        town.pass(30);
        return town;
    }

    private static void differsRefuses() throws Exception {
        Edges.says("Throws `IndexOutOfBoundsException` if there is no such rule");
        Edges.refused("of none", Due.BOUNDS, EMPTY, town -> town.differs(0));
        Edges.beyond("of four", Due.BOUNDS, PASSED, 0, 3, Madeham::differs);
        Edges.beyond("of six", Due.BOUNDS, ENDED, 0, 5, Madeham::differs);
        Edges.says("Throws `UnsupportedOperationException` if there are no people");
        Edges.refused("the first rule", Due.UNSUPPORTED, UNPEOPLED, town -> town.differs(0));
        Edges.refused("the last rule", Due.UNSUPPORTED, UNPEOPLED, town -> town.differs(1));
        Edges.says("Throws `NoSuchElementException` if they do not");
        Edges.refused("no day", Due.NO_SUCH, () -> twenty(0), town -> town.differs(0));
        Edges.refused("a rule that is off", Due.NO_SUCH, () -> twenty(60), town -> town.differs(5));
        Edges.refused("0 more", Due.NO_SUCH, () -> twenty(60), town -> town.differs(2));
        Edges.refused("a day too early", Due.NO_SUCH, () -> {
            Madeham town = lateFor(60);
            town.reset();
            town.pass(30);
            town.pass(29);
            return town;
        }, town -> town.differs(1));
        Edges.refused("reset", Due.NO_SUCH, () -> {
            Madeham town = twenty(60);
            town.reset();
            return town;
        }, town -> town.differs(0));
        Edges.refused("no rule ahead of no people", Due.BOUNDS, UNPEOPLED, town -> town.differs(2));
        Edges.refused("no rule ahead of no difference", Due.BOUNDS, () -> twenty(0), town -> town.differs(6));
        Edges.refused("no people ahead of no difference", Due.UNSUPPORTED, UNPEOPLED, town -> town.differs(0));
        Edges.allSaid();
    }

    /** One person, whose trait 0 begins at 45, and one rule. */
    private static Madeham middle(int days) {
        Madeham town = Towns.with(45);
        town.addRule('a', 0, 0, 0, 0, 100);
        if (days > 0) {
            town.pass(days);
        }
        return town;
    }

    private static void least() throws Exception {
        Edges.promise(35);
        Edges.says("Returns the least amount of a rule with which the mean of a trait would be the goal or more, behind as"
                + " many days as went by.");
        Edges.answers("the goal", 3, () -> middle(5), town -> town.least(0, 0, 6000));
        Edges.answers("one more than the goal before", 4, () -> middle(5), town -> town.least(0, 0, 6001));
        Edges.answers("one less", 3, () -> middle(5), town -> town.least(0, 0, 5999));
        Edges.says("- `rule`: the rule");
        // a day ends with 1 less, so that 98 is the most
        Edges.answers("the last, which is off", -9, () -> twenty(30), town -> town.least(5, 0, 9800));
        Edges.answers("the first", 4, () -> twenty(30), town -> town.least(0, 0, 9800));
        Edges.says("- `trait`: 0 to 3");
        Edges.range("trait", Due.ARGUMENT, PASSED, 0, 3, (town, trait) -> town.least(0, trait, 0));
        Edges.says("- `goal`: 0 to 9900");
        Edges.answers("0", -9, () -> middle(30), town -> town.least(0, 0, 0));
        Edges.answers("9900", 9, () -> middle(6), town -> town.least(0, 0, 9900));
        Edges.beyond("goal", Due.ARGUMENT, ORDINARY, 0, 9900, (town, goal) -> town.least(0, 0, goal));
        Edges.says("Returns the amount.");
        Edges.answers("the least", -9, () -> middle(5), town -> town.least(0, 0, 0));
        Edges.answers("the least at its mean", -9, () -> middle(4), town -> town.least(0, 0, 900));
        Edges.answers("the one above", -8, () -> middle(4), town -> town.least(0, 0, 901));
        Edges.answers("the most", 9, () -> middle(5), town -> town.least(0, 0, 9000));
        Edges.answers("no day", -9, () -> middle(0), town -> town.least(0, 0, 4500));
    }

    private static void leastRefuses() throws Exception {
        Edges.says("Throws `IndexOutOfBoundsException` if there is no such rule");
        Edges.refused("of none", Due.BOUNDS, EMPTY, town -> town.least(0, 0, 0));
        Edges.beyond("of four", Due.BOUNDS, PASSED, 0, 3, (town, rule) -> town.least(rule, 0, 0));
        Edges.beyond("of six", Due.BOUNDS, ENDED, 0, 5, (town, rule) -> town.least(rule, 0, 0));
        Edges.says("Throws `IllegalArgumentException` if a number is out of range");
        Edges.refused("both", Due.ARGUMENT, ENDED, town -> town.least(5, 4, 9901));
        Edges.refused("both below", Due.ARGUMENT, ORDINARY, town -> town.least(0, -1, -1));
        Edges.says("Throws `UnsupportedOperationException` if there are no people");
        Edges.refused("the first rule", Due.UNSUPPORTED, UNPEOPLED, town -> town.least(0, 0, 0));
        Edges.refused("the last rule", Due.UNSUPPORTED, UNPEOPLED, town -> town.least(1, 3, 9900));
        Edges.says("Throws `NoSuchElementException` if there is none");
        Edges.refused("one more than the most", Due.NO_SUCH, () -> middle(5), town -> town.least(0, 0, 9001));
        Edges.refused("no day, one more than it is", Due.NO_SUCH, () -> middle(0), town -> town.least(0, 0, 4501));
        Edges.refused("another trait", Due.NO_SUCH, () -> twenty(60), town -> town.least(0, 1, 9900));
        Edges.refused("a rule that is off", Due.NO_SUCH, () -> {
            Madeham town = middle(0);
            town.setOn(0, false);
            town.pass(30);
            return town;
        }, town -> town.least(0, 0, 4501));
        Edges.refused("no rule ahead of the trait", Due.BOUNDS, PASSED, town -> town.least(4, 4, 0));
        Edges.refused("no rule ahead of the goal", Due.BOUNDS, PASSED, town -> town.least(-1, 0, 9901));
        Edges.refused("no rule ahead of no people", Due.BOUNDS, UNPEOPLED, town -> town.least(2, 0, 0));
        Edges.refused("no rule ahead of no amount", Due.BOUNDS, () -> middle(0), town -> town.least(1, 0, 9900));
        Edges.refused("the trait ahead of no people", Due.ARGUMENT, UNPEOPLED, town -> town.least(0, 4, 0));
        Edges.refused("the goal ahead of no people", Due.ARGUMENT, UNPEOPLED, town -> town.least(0, 0, 9901));
        Edges.refused("the goal ahead of no amount", Due.ARGUMENT, () -> middle(0), town -> town.least(0, 0, 9901));
        Edges.refused("no people ahead of no amount", Due.UNSUPPORTED, UNPEOPLED, town -> town.least(0, 0, 9900));
        Edges.allSaid();
    }
}
