import java.util.Arrays;

/** The boundary cases of the promises 20 to 26: days, means and surveys. */
public final class DayEdgesTest {
    private static final Edges.Town EMPTY = Towns::empty;
    private static final Edges.Town UNPEOPLED = Towns::unpeopled;
    private static final Edges.Town ONE = () -> Towns.with(10);
    private static final Edges.Town ORDINARY = Towns::ordinary;
    private static final Edges.Town PASSED = Towns::passed;
    private static final Edges.Town FULL = Towns::full;
    private static final Edges.Town ENDED = Towns::ended;

    public static void main(String[] args) throws Exception {
        pass();
        passRefuses();
        reset();
        today();
        trait();
        mean();
        groupMean();
        groupMeanRefuses();
        survey();
        surveyNumbers();
        surveyRefuses();
        Due.end();
    }

    private static Madeham behind(int days) {
        Madeham town = Towns.with(10);
        town.addRule('a', 0, 0, 0, 1, 100);
        for (int left = days; left > 0; left -= 30) {
            town.pass(Math.min(30, left));
        }
        return town;
    }

    private static void pass() throws Exception {
        Edges.promise(20);
        Edges.says("Lets days go by.");
        Edges.answers("one", 11, () -> behind(1), town -> town.trait(0, 0));
        Edges.answers("thirty", 40, () -> behind(30), town -> town.trait(0, 0));
        Edges.answers("sixty", 70, () -> behind(60), town -> town.trait(0, 0));
        Edges.says("- `days`: 1 to 30");
        Edges.range("days", Due.ARGUMENT, ORDINARY, 1, 30, Madeham::pass);
        Edges.says("Returns how many went by in all.");
        Edges.answers("the first", 1, ORDINARY, town -> town.pass(1));
        Edges.answers("one more", 4, PASSED, town -> town.pass(1));
        Edges.answers("thirty more", 60, () -> behind(30), town -> town.pass(30));
        Edges.answers("the last", 60, () -> behind(59), town -> town.pass(1));
        Edges.answers("behind a reset", 30, ENDED, town -> {
            town.reset();
            return town.pass(30);
        });
    }

    private static void passRefuses() throws Exception {
        Edges.says("Throws `IllegalArgumentException` if a number is out of range");
        Edges.refused("0", Due.ARGUMENT, PASSED, town -> town.pass(0));
        Edges.refused("31", Due.ARGUMENT, PASSED, town -> town.pass(31));
        Edges.says("Throws `UnsupportedOperationException` if there are no people");
        Edges.refused("an empty town", Due.UNSUPPORTED, EMPTY, town -> town.pass(1));
        Edges.refused("only rules and places", Due.UNSUPPORTED, UNPEOPLED, town -> town.pass(30));
        Edges.refused("people who are told, but not made", Due.UNSUPPORTED, () -> {
            Madeham town = Towns.unpeopled();
            town.setGroup(0, 1);
            town.setHomes(0, 1);
            return town;
        }, town -> town.pass(1));
        Edges.says("Throws `IllegalStateException` if more than 60 would");
        Edges.refused("61", Due.STATE, ENDED, town -> town.pass(1));
        Edges.refused("90", Due.STATE, ENDED, town -> town.pass(30));
        Edges.refused("59 and 2", Due.STATE, () -> behind(59), town -> town.pass(2));
        Edges.refused("31 and 30", Due.STATE, () -> behind(31), town -> town.pass(30));
        Edges.refused("the number ahead of no people", Due.ARGUMENT, EMPTY, town -> town.pass(0));
        Edges.refused("a great number ahead of no people", Due.ARGUMENT, EMPTY, town -> town.pass(61));
        Edges.refused("the number ahead of more than 60", Due.ARGUMENT, ENDED, town -> town.pass(31));
        Edges.refused("a number below ahead of more than 60", Due.ARGUMENT, ENDED, town -> town.pass(0));
        Edges.refused("61 at once", Due.ARGUMENT, ORDINARY, town -> town.pass(61));
        Edges.allSaid();
    }

    private static void reset() throws Exception {
        Edges.promise(21);
        Edges.says("Resets the town to how it was as the first day began.");
        Edges.answers("the trait", 10, () -> behind(60), town -> {
            town.reset();
            return town.trait(0, 0);
        });
        Edges.answers("all is tellable", 3, PASSED, town -> {
            town.reset();
            return town.addPlace();
        });
        Edges.answers("what was told stays", Towns.full().hash(), ENDED, town -> {
            town.reset();
            return town.hash();
        });
        Edges.answers("the people too", Towns.full().checksum(), ENDED, town -> {
            town.reset();
            return town.checksum();
        });
        Edges.answers("no day, nothing changes", Towns.full().checksum(), FULL, town -> {
            town.reset();
            return town.checksum();
        });
        Edges.says("Returns how many days had gone by.");
        Edges.answers("none of nobody", 0, EMPTY, Madeham::reset);
        Edges.answers("none", 0, FULL, Madeham::reset);
        Edges.answers("one", 1, () -> behind(1), Madeham::reset);
        Edges.answers("all", 60, ENDED, Madeham::reset);
        Edges.answers("twice", 0, ENDED, town -> {
            town.reset();
            return town.reset();
        });
        Edges.allSaid();
    }

    private static void today() throws Exception {
        Edges.promise(22);
        Edges.says("Returns how many days went by.");
        Edges.answers("some", 3, PASSED, Madeham::today);
        Edges.says("Returns how many.");
        Edges.answers("none", 0, EMPTY, Madeham::today);
        Edges.answers("one", 1, () -> behind(1), Madeham::today);
        Edges.answers("all", 60, ENDED, Madeham::today);
        Edges.answers("reset", 0, ENDED, town -> {
            town.reset();
            return town.today();
        });
        Edges.allSaid();
    }

    private static void trait() throws Exception {
        Edges.promise(23);
        Edges.says("Returns a trait.");
        Edges.answers("as set", 50, ORDINARY, town -> town.trait(2, 0));
        Edges.says("- `person`: the person");
        Edges.answers("the first", 10, ORDINARY, town -> town.trait(0, 0));
        Edges.answers("the last", 90, ORDINARY, town -> town.trait(4, 0));
        Edges.says("- `trait`: 0 to 3");
        Edges.range("trait", Due.ARGUMENT, ORDINARY, 0, 3, (town, trait) -> town.trait(4, trait));
        Edges.says("Returns the value.");
        Edges.answers("the least", 0, () -> Towns.with(5, 0), town -> town.trait(1, 0));
        Edges.answers("the most", 99, () -> Towns.with(5, 99), town -> town.trait(1, 0));
        Edges.says("Throws `IndexOutOfBoundsException` if there is no such person");
        Edges.refused("of none", Due.BOUNDS, UNPEOPLED, town -> town.trait(0, 0));
        Edges.beyond("of one", Due.BOUNDS, ONE, 0, 0, (town, person) -> town.trait(person, 0));
        Edges.beyond("of five", Due.BOUNDS, PASSED, 0, 4, (town, person) -> town.trait(person, 0));
        Edges.beyond("of twenty", Due.BOUNDS, ENDED, 0, 19, (town, person) -> town.trait(person, 3));
        Edges.says("Throws `IllegalArgumentException` if a number is out of range");
        Edges.refused("4", Due.ARGUMENT, ENDED, town -> town.trait(19, 4));
        Edges.refused("-1", Due.ARGUMENT, ENDED, town -> town.trait(0, -1));
        Edges.refused("no person ahead of the trait", Due.BOUNDS, ORDINARY, town -> town.trait(5, 4));
        Edges.refused("no person below ahead of the trait", Due.BOUNDS, EMPTY, town -> town.trait(-1, -1));
        Edges.allSaid();
    }

    private static void mean() throws Exception {
        Edges.promise(24);
        Edges.says("Returns the mean of a trait.");
        Edges.answers("of five", 5000, ORDINARY, town -> town.mean(0));
        Edges.says("- `trait`: 0 to 3");
        Edges.range("trait", Due.ARGUMENT, ORDINARY, 0, 3, Madeham::mean);
        Edges.says("Returns the hundredths.");
        Edges.answers("the least", 0, () -> Towns.with(0, 0), town -> town.mean(0));
        Edges.answers("the most", 9900, () -> Towns.with(99, 99), town -> town.mean(0));
        Edges.answers("the most of twenty", 9900, DayEdgesTest::withTwentyAtMost, town -> town.mean(0));
        Edges.answers("of one", 1000, ONE, town -> town.mean(0));
        Edges.answers("cut by a third", 33, () -> Towns.with(0, 0, 1), town -> town.mean(0));
        Edges.answers("cut by two thirds", 9866, () -> Towns.with(99, 99, 98), town -> town.mean(0));
        Edges.says("Throws `IllegalArgumentException` if a number is out of range");
        Edges.refused("4", Due.ARGUMENT, ENDED, town -> town.mean(4));
        Edges.refused("-1", Due.ARGUMENT, ENDED, town -> town.mean(-1));
        Edges.says("Throws `UnsupportedOperationException` if there are no people");
        Edges.refused("an empty town", Due.UNSUPPORTED, EMPTY, town -> town.mean(0));
        Edges.refused("only rules and places", Due.UNSUPPORTED, UNPEOPLED, town -> town.mean(3));
        Edges.refused("the trait ahead of no people", Due.ARGUMENT, EMPTY, town -> town.mean(4));
        Edges.refused("a trait below ahead of no people", Due.ARGUMENT, EMPTY, town -> town.mean(-1));
        Edges.allSaid();
    }

    private static Madeham withTwentyAtMost() {
        int[] values = new int[20];
        Arrays.fill(values, 99);
        return Towns.with(values);
    }

    private static void groupMean() throws Exception {
        Edges.promise(25);
        Edges.says("Returns the mean of a trait over a group.");
        Edges.answers("the group 0", 2000, ORDINARY, town -> town.groupMean(0, 0));
        Edges.answers("the group 1", 6000, ORDINARY, town -> town.groupMean(1, 0));
        Edges.answers("the group 2", 9000, ORDINARY, town -> town.groupMean(2, 0));
        Edges.says("- `group`: 0 to 2");
        Edges.range("group", Due.ARGUMENT, ORDINARY, 0, 2, (town, group) -> town.groupMean(group, 0));
        Edges.says("- `trait`: 0 to 3");
        Edges.range("trait", Due.ARGUMENT, ORDINARY, 0, 3, (town, trait) -> town.groupMean(2, trait));
        Edges.says("Returns the hundredths.");
        Edges.answers("the least", 0, () -> Towns.with(0, 0), town -> town.groupMean(0, 0));
        Edges.answers("the most", 9900, DayEdgesTest::withTwentyAtMost, town -> town.groupMean(0, 0));
        Edges.answers("cut", 9866, () -> Towns.with(99, 99, 98), town -> town.groupMean(0, 0));
    }

    private static void groupMeanRefuses() throws Exception {
        Edges.says("Throws `IllegalArgumentException` if a number is out of range");
        Edges.refused("both", Due.ARGUMENT, ORDINARY, town -> town.groupMean(3, 4));
        Edges.refused("the trait of one who is", Due.ARGUMENT, ONE, town -> town.groupMean(0, 4));
        Edges.says("Throws `NoSuchElementException` if nobody is of the group");
        Edges.refused("of an empty town", Due.NO_SUCH, EMPTY, town -> town.groupMean(0, 0));
        Edges.refused("of nobody", Due.NO_SUCH, UNPEOPLED, town -> town.groupMean(2, 3));
        Edges.refused("of one of another group", Due.NO_SUCH, ONE, town -> town.groupMean(1, 0));
        Edges.refused("of twenty of another group", Due.NO_SUCH, DayEdgesTest::withTwentyAtMost,
                town -> town.groupMean(2, 0));
        Edges.refused("told, but not made", Due.NO_SUCH, () -> {
            Madeham town = Towns.with(10);
            town.setGroup(1, 20);
            return town;
        }, town -> town.groupMean(1, 0));
        Edges.refused("the group ahead of nobody", Due.ARGUMENT, EMPTY, town -> town.groupMean(3, 0));
        Edges.refused("the trait ahead of nobody", Due.ARGUMENT, EMPTY, town -> town.groupMean(0, 4));
        Edges.refused("the trait below ahead of nobody", Due.ARGUMENT, ONE, town -> town.groupMean(1, -1));
        Edges.allSaid();
    }

    /** Ten people, whose trait 0 is 0, 10, .. 90. */
    private static Madeham ten() {
        return Towns.with(0, 10, 20, 30, 40, 50, 60, 70, 80, 90);
    }

    private static void survey() throws Exception {
        Edges.promise(26);
        Edges.says("Asks the person 0, and each so-manieth one behind; a person refuses if the draw on the day of now for"
                + " the purpose 150 is below the refusal.");
        Edges.answers("each", 4500, DayEdgesTest::ten, town -> town.survey(0, 1, 0));
        Edges.answers("each second", 4000, DayEdgesTest::ten, town -> town.survey(0, 2, 0));
        Edges.answers("each fifth", 2500, DayEdgesTest::ten, town -> town.survey(0, 5, 0));
        Edges.answers("each eighth", 4000, DayEdgesTest::ten, town -> town.survey(0, 8, 0));
        Edges.answers("the ninth behind is the last", 4500, DayEdgesTest::ten, town -> town.survey(0, 9, 0));
        Edges.answers("the ninth behind is not there", 500, () -> Towns.with(5, 1, 1, 1, 1, 1, 1, 1, 1),
                town -> town.survey(0, 9, 0));
        for (int days : new int[] {0, 1, 30, 60}) {
            int drawn = behind(days).draw(0, days, 150);
            int value = 100 * (10 + days);
            Edges.answers("the draw is the refusal", value, () -> behind(days), town -> town.survey(0, 1, drawn));
            Edges.refused("the draw is below it", Due.NO_SUCH, () -> behind(days), town -> town.survey(0, 1, drawn + 1));
        }
    }

    private static void surveyNumbers() throws Exception {
        Edges.says("- `trait`: 0 to 3");
        Edges.range("trait", Due.ARGUMENT, ORDINARY, 0, 3, (town, trait) -> town.survey(trait, 1, 0));
        Edges.says("- `each`: 1 to 9");
        Edges.range("each", Due.ARGUMENT, ORDINARY, 1, 9, (town, each) -> town.survey(0, each, 0));
        Edges.says("- `refusal`: 0 to 100");
        Edges.answers("0, nobody refuses", 5000, ORDINARY, town -> town.survey(0, 1, 0));
        Edges.refused("100, all refuse", Due.NO_SUCH, ORDINARY, town -> town.survey(0, 1, 100));
        Edges.refused("100, all of twenty refuse", Due.NO_SUCH, FULL, town -> town.survey(0, 1, 100));
        Edges.beyond("refusal", Due.ARGUMENT, ORDINARY, 0, 100, (town, refusal) -> town.survey(0, 1, refusal));
        Edges.says("Returns the mean of those who answer, in hundredths.");
        Edges.answers("the least", 0, () -> Towns.with(0), town -> town.survey(0, 9, 0));
        Edges.answers("the most", 9900, DayEdgesTest::withTwentyAtMost, town -> town.survey(0, 1, 0));
        Edges.answers("cut", 9866, () -> Towns.with(99, 99, 98), town -> town.survey(0, 1, 0));
        Edges.answers("only those who answer", meanOfAnswers(50), DayEdgesTest::ten, town -> town.survey(0, 1, 50));
        Edges.answers("99", meanOfAnswers(90), DayEdgesTest::ten, town -> town.survey(0, 1, 90));
    }

    /** Of the ten people, on the day 0. */
    private static int meanOfAnswers(int refusal) {
        Madeham town = ten();
        int sum = 0;
        int many = 0;
        for (int person = 0; person < 10; person++) {
            if (town.draw(person, 0, 150) >= refusal) {
                sum += 10 * person;
                many++;
            }
        }
        Edges.same("some refuse, and some do not", true, many > 0 && many < 10);
        return sum * 100 / many;
    }

    private static void surveyRefuses() throws Exception {
        Edges.says("Throws `IllegalArgumentException` if a number is out of range");
        Edges.refused("all", Due.ARGUMENT, ORDINARY, town -> town.survey(4, 0, 101));
        Edges.refused("all below", Due.ARGUMENT, ENDED, town -> town.survey(-1, -1, -1));
        Edges.says("Throws `NoSuchElementException` if nobody answers");
        Edges.refused("an empty town", Due.NO_SUCH, EMPTY, town -> town.survey(0, 1, 0));
        Edges.refused("nobody", Due.NO_SUCH, UNPEOPLED, town -> town.survey(3, 9, 100));
        Edges.refused("the trait ahead of nobody", Due.ARGUMENT, EMPTY, town -> town.survey(4, 1, 0));
        Edges.refused("each 0 ahead of nobody", Due.ARGUMENT, EMPTY, town -> town.survey(0, 0, 0));
        Edges.refused("each 10 ahead of nobody", Due.ARGUMENT, EMPTY, town -> town.survey(0, 10, 0));
        Edges.refused("the refusal ahead of nobody", Due.ARGUMENT, EMPTY, town -> town.survey(0, 1, 101));
        Edges.refused("the refusal below ahead of nobody", Due.ARGUMENT, EMPTY, town -> town.survey(0, 1, -1));
        Edges.refused("the trait ahead of all who refuse", Due.ARGUMENT, ORDINARY, town -> town.survey(4, 1, 100));
        Edges.refused("each ahead of all who refuse", Due.ARGUMENT, ORDINARY, town -> town.survey(0, 10, 100));
        Edges.allSaid();
    }
}
