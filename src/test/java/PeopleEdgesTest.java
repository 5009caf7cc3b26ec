/** The boundary cases of the promises 5 to 13: margins and people. */
public final class PeopleEdgesTest {
    private static final Edges.Town EMPTY = Towns::empty;
    private static final Edges.Town UNPEOPLED = Towns::unpeopled;
    private static final Edges.Town ONE = () -> Towns.ofOnePlace(1);
    private static final Edges.Town ORDINARY = Towns::ordinary;
    private static final Edges.Town PASSED = Towns::passed;
    private static final Edges.Town FULL = Towns::full;
    private static final Edges.Town ENDED = Towns::ended;

    public static void main(String[] args) throws Exception {
        setGroup();
        setHomes();
        make();
        makeRefuses();
        cell();
        home();
        groupOf();
        setWork();
        setWorkRefuses();
        tie();
        tieRefuses();
        setTrait();
        setTraitRefuses();
        Due.end();
    }

    private static void setGroup() throws Exception {
        Edges.promise(5);
        Edges.says("Sets how many people are of a group.");
        Edges.answers("told, but not made", 0, ORDINARY, town -> {
            town.setGroup(0, 20);
            return town.cell(0, 1);
        });
        Edges.says("- `group`: 0 to 2");
        Edges.range("group", Due.ARGUMENT, ORDINARY, 0, 2, (town, group) -> town.setGroup(group, 4));
        Edges.says("- `many`: 0 to 20");
        Edges.range("many", Due.ARGUMENT, ORDINARY, 0, 20, (town, many) -> town.setGroup(2, many));
        Edges.says("Returns how many there were told.");
        Edges.answers("none at first", 0, EMPTY, town -> town.setGroup(2, 20));
        Edges.answers("twenty", 20, EMPTY, town -> {
            town.setGroup(2, 20);
            return town.setGroup(2, 0);
        });
        Edges.answers("none", 0, ORDINARY, town -> {
            town.setGroup(0, 0);
            return town.setGroup(0, 1);
        });
        Edges.answers("days do not matter", 2, PASSED, town -> town.setGroup(1, 20));
        Edges.answers("the end does not", 6, ENDED, town -> town.setGroup(2, 0));
        Edges.says("Throws `IllegalArgumentException` if a number is out of range");
        Edges.refused("both", Due.ARGUMENT, ORDINARY, town -> town.setGroup(3, 21));
        Edges.refused("the group of an empty town", Due.ARGUMENT, EMPTY, town -> town.setGroup(-1, 0));
        Edges.refused("behind days", Due.ARGUMENT, ENDED, town -> town.setGroup(2, 21));
        Edges.allSaid();
    }

    private static void setHomes() throws Exception {
        Edges.promise(6);
        Edges.says("Sets how many people live at a place.");
        Edges.answers("told, but not made", 0, ORDINARY, town -> {
            town.setHomes(1, 20);
            return town.cell(0, 1);
        });
        Edges.says("- `place`: the place");
        Edges.answers("the first", 4, FULL, town -> town.setHomes(0, 1));
        Edges.answers("the last", 4, FULL, town -> town.setHomes(4, 1));
        Edges.says("- `many`: 0 to 20");
        Edges.range("many", Due.ARGUMENT, ORDINARY, 0, 20, (town, many) -> town.setHomes(2, many));
        Edges.says("Returns how many there were told.");
        Edges.answers("none at first", 0, UNPEOPLED, town -> town.setHomes(1, 20));
        Edges.answers("twenty", 20, UNPEOPLED, town -> {
            town.setHomes(1, 20);
            return town.setHomes(1, 0);
        });
        Edges.answers("none", 0, ORDINARY, town -> {
            town.setHomes(0, 0);
            return town.setHomes(0, 1);
        });
        Edges.answers("days do not matter", 2, PASSED, town -> town.setHomes(1, 20));
        Edges.says("Throws `IndexOutOfBoundsException` if there is no such place");
        Edges.refused("of none", Due.BOUNDS, EMPTY, town -> town.setHomes(0, 1));
        Edges.beyond("of three", Due.BOUNDS, ORDINARY, 0, 2, (town, place) -> town.setHomes(place, 1));
        Edges.beyond("of five", Due.BOUNDS, FULL, 0, 4, (town, place) -> town.setHomes(place, 1));
        Edges.says("Throws `IllegalArgumentException` if a number is out of range");
        Edges.refused("21", Due.ARGUMENT, PASSED, town -> town.setHomes(0, 21));
        Edges.refused("-1", Due.ARGUMENT, PASSED, town -> town.setHomes(0, -1));
        Edges.refused("no place ahead of the number", Due.BOUNDS, ORDINARY, town -> town.setHomes(3, 21));
        Edges.refused("no place ahead of a number below", Due.BOUNDS, ORDINARY, town -> town.setHomes(-1, -1));
        Edges.allSaid();
    }

    /** Margins of the groups 0 and 1, and of the places 0 and 1; nobody is made. */
    private static Madeham told(int group, int otherGroup, int home, int otherHome) {
        Madeham town = new Madeham();
        town.addPlace();
        town.addPlace();
        town.setGroup(0, group);
        town.setGroup(1, otherGroup);
        town.setHomes(0, home);
        town.setHomes(1, otherHome);
        return town;
    }

    private static void make() throws Exception {
        Edges.promise(7);
        Edges.says("Makes people.");
        Edges.answers("the first is there", 0, () -> told(0, 1, 1, 0), town -> {
            town.make();
            return town.home(0);
        });
        Edges.answers("the twentieth is there", 1, () -> told(0, 20, 0, 20), town -> {
            town.make();
            return town.home(19);
        });
        Edges.says("Returns how many.");
        Edges.answers("one", 1, () -> told(0, 1, 0, 1), Madeham::make);
        Edges.answers("twenty of a group at a place", 20, () -> told(20, 0, 0, 20), Madeham::make);
        Edges.answers("twenty", 20, () -> told(19, 1, 1, 19), Madeham::make);
        Edges.answers("anew", 5, ORDINARY, Madeham::make);
        Edges.answers("behind a reset", 20, ENDED, town -> {
            town.reset();
            return town.make();
        });
    }

    private static void makeRefuses() throws Exception {
        Edges.says("Throws `UnsupportedOperationException` if a day went by, or the margins do not fit");
        Edges.refused("sums of 0", Due.UNSUPPORTED, () -> told(0, 0, 0, 0), Madeham::make);
        Edges.refused("no places", Due.UNSUPPORTED, EMPTY, Madeham::make);
        Edges.refused("one more of a group", Due.UNSUPPORTED, () -> told(3, 2, 2, 2), Madeham::make);
        Edges.refused("one more at a place", Due.UNSUPPORTED, () -> told(2, 2, 2, 3), Madeham::make);
        Edges.refused("groups without homes", Due.UNSUPPORTED, () -> told(1, 0, 0, 0), Madeham::make);
        Edges.refused("homes without groups", Due.UNSUPPORTED, () -> told(0, 0, 0, 1), Madeham::make);
        Edges.refused("21 alike", Due.UNSUPPORTED, () -> told(20, 1, 1, 20), Madeham::make);
        Edges.refused("40 alike", Due.UNSUPPORTED, () -> told(20, 20, 20, 20), Madeham::make);
        Edges.refused("people stay if sums are not alike", Due.UNSUPPORTED, PeopleEdgesTest::withOneMoreTold,
                Madeham::make);
        Edges.refused("one day", Due.UNSUPPORTED, () -> {
            Madeham town = Towns.ordinary();
            town.pass(1);
            return town;
        }, Madeham::make);
        Edges.refused("all days", Due.UNSUPPORTED, ENDED, Madeham::make);
        Edges.refused("a day, and margins that do not fit", Due.UNSUPPORTED, () -> {
            Madeham town = withOneMoreTold();
            town.pass(1);
            return town;
        }, Madeham::make);
        Edges.allSaid();
    }

    private static Madeham withOneMoreTold() {
        Madeham town = Towns.ordinary();
        town.setGroup(0, 3);
        return town;
    }

    private static void cell() throws Exception {
        Edges.promise(8);
        Edges.says("Returns how many people of a group live at a place.");
        Edges.answers("some", 2, ORDINARY, town -> town.cell(1, 1));
        Edges.answers("none of the group there", 0, ORDINARY, town -> town.cell(0, 2));
        Edges.says("- `group`: 0 to 2");
        Edges.range("group", Due.ARGUMENT, ORDINARY, 0, 2, (town, group) -> town.cell(group, 0));
        Edges.says("- `place`: the place");
        Edges.answers("the first", 2, ORDINARY, town -> town.cell(0, 0));
        Edges.answers("the last", 1, ORDINARY, town -> town.cell(2, 2));
        Edges.says("Returns how many.");
        Edges.answers("nobody is made", 0, () -> told(2, 2, 2, 2), town -> town.cell(0, 0));
        Edges.answers("all", 20, () -> Towns.ofOnePlace(20), town -> town.cell(0, 0));
        Edges.answers("days change nothing", 2, PASSED, town -> town.cell(0, 0));
        Edges.says("Throws `IllegalArgumentException` if a number is out of range");
        Edges.refused("the group of an empty town", Due.ARGUMENT, EMPTY, town -> town.cell(3, 0));
        Edges.refused("the group ahead of no place", Due.ARGUMENT, ORDINARY, town -> town.cell(3, 3));
        Edges.refused("a group below ahead of no place", Due.ARGUMENT, ORDINARY, town -> town.cell(-1, -1));
        Edges.says("Throws `IndexOutOfBoundsException` if there is no such place");
        Edges.refused("of none", Due.BOUNDS, EMPTY, town -> town.cell(0, 0));
        Edges.beyond("of three", Due.BOUNDS, ORDINARY, 0, 2, (town, place) -> town.cell(2, place));
        Edges.beyond("of five", Due.BOUNDS, ENDED, 0, 4, (town, place) -> town.cell(0, place));
        Edges.allSaid();
    }

    private static void home() throws Exception {
        Edges.promise(9);
        Edges.says("Returns where a person lives.");
        Edges.answers("of five", 1, ORDINARY, town -> town.home(3));
        Edges.says("- `person`: the person");
        Edges.answers("the first", 0, FULL, town -> town.home(0));
        Edges.answers("the last of twenty", 4, FULL, town -> town.home(19));
        Edges.answers("the only one", 0, ONE, town -> town.home(0));
        Edges.says("Returns the place.");
        Edges.answers("the last place", 2, PASSED, town -> town.home(4));
        Edges.says("Throws `IndexOutOfBoundsException` if there is no such person");
        Edges.refused("of none", Due.BOUNDS, UNPEOPLED, town -> town.home(0));
        Edges.beyond("of one", Due.BOUNDS, ONE, 0, 0, Madeham::home);
        Edges.beyond("of five", Due.BOUNDS, ORDINARY, 0, 4, Madeham::home);
        Edges.beyond("of twenty", Due.BOUNDS, ENDED, 0, 19, Madeham::home);
        Edges.allSaid();
    }

    private static void groupOf() throws Exception {
        Edges.promise(10);
        Edges.says("Returns the group of a person.");
        Edges.answers("of five", 1, ORDINARY, town -> town.groupOf(3));
        Edges.says("- `person`: the person");
        Edges.answers("the first", 0, FULL, town -> town.groupOf(0));
        Edges.answers("the last of twenty", 2, FULL, town -> town.groupOf(19));
        Edges.says("Returns the group.");
        Edges.answers("the last of the group 0", 0, FULL, town -> town.groupOf(6));
        Edges.answers("the first of the group 1", 1, FULL, town -> town.groupOf(7));
        Edges.answers("the last of the group 1", 1, FULL, town -> town.groupOf(13));
        Edges.answers("the first of the group 2", 2, FULL, town -> town.groupOf(14));
        Edges.says("Throws `IndexOutOfBoundsException` if there is no such person");
        Edges.refused("of none", Due.BOUNDS, UNPEOPLED, town -> town.groupOf(0));
        Edges.beyond("of one", Due.BOUNDS, ONE, 0, 0, Madeham::groupOf);
        Edges.beyond("of five", Due.BOUNDS, ORDINARY, 0, 4, Madeham::groupOf);
        Edges.beyond("of twenty", Due.BOUNDS, ENDED, 0, 19, Madeham::groupOf);
        Edges.allSaid();
    }

    private static void setWork() throws Exception {
        Edges.promise(11);
        Edges.says("Tells where a person works.");
        Edges.answers("elsewhere", 1.0, FULL, town -> {
            town.link(0, 1, 20);
            town.setWork(19, 0);
            double mean = town.meanWay();
            town.setWork(0, 1);
            return town.meanWay() - mean;
        });
        Edges.says("- `person`: the person");
        Edges.answers("the first", 0, FULL, town -> town.setWork(0, 1));
        Edges.answers("the last", 4, FULL, town -> town.setWork(19, 1));
        Edges.says("- `place`: the place");
        Edges.answers("the first", 0, FULL, town -> {
            town.setWork(19, 0);
            return town.setWork(19, 1);
        });
        Edges.answers("the last", 4, FULL, town -> {
            town.setWork(0, 4);
            return town.setWork(0, 1);
        });
        Edges.says("Returns the place before.");
        Edges.answers("the place 0 at first", 0, ONE, town -> town.setWork(0, 0));
        Edges.answers("as told", 2, ORDINARY, town -> town.setWork(0, 0));
    }

    private static void setWorkRefuses() throws Exception {
        Edges.says("Throws `IndexOutOfBoundsException` if there is no such person or place");
        Edges.refused("of no people", Due.BOUNDS, UNPEOPLED, town -> town.setWork(0, 0));
        Edges.refused("of nothing", Due.BOUNDS, EMPTY, town -> town.setWork(0, 0));
        Edges.beyond("person of five", Due.BOUNDS, ORDINARY, 0, 4, (town, person) -> town.setWork(person, 1));
        Edges.beyond("person of twenty", Due.BOUNDS, FULL, 0, 19, (town, person) -> town.setWork(person, 1));
        Edges.beyond("place of three", Due.BOUNDS, ORDINARY, 0, 2, (town, place) -> town.setWork(0, place));
        Edges.beyond("place of five", Due.BOUNDS, FULL, 0, 4, (town, place) -> town.setWork(0, place));
        Edges.says("Throws `UnsupportedOperationException` if a day went by");
        Edges.refused("three days", Due.UNSUPPORTED, PASSED, town -> town.setWork(0, 0));
        Edges.refused("as it is", Due.UNSUPPORTED, PASSED, town -> town.setWork(0, 2));
        Edges.refused("all days", Due.UNSUPPORTED, ENDED, town -> town.setWork(19, 0));
        Edges.answers("reset", 2, PASSED, town -> {
            town.reset();
            return town.setWork(0, 0);
        });
        Edges.refused("no person ahead of the day", Due.BOUNDS, PASSED, town -> town.setWork(5, 0));
        Edges.refused("no place ahead of the day", Due.BOUNDS, PASSED, town -> town.setWork(0, 3));
        Edges.allSaid();
    }

    private static void tie() throws Exception {
        Edges.promise(12);
        Edges.says("Tells whether two people have a tie.");
        Edges.answers("both ways", true, ORDINARY, town -> town.tie(1, 0, true));
        Edges.says("- `person`: the person");
        Edges.answers("the first", false, FULL, town -> town.tie(0, 1, true));
        Edges.answers("the last", true, FULL, town -> town.tie(19, 0, true));
        Edges.says("- `other`: the other one");
        Edges.answers("the first", false, FULL, town -> town.tie(1, 0, true));
        Edges.answers("the last", true, FULL, town -> town.tie(0, 19, true));
        Edges.says("- `is`: whether they have a tie");
        Edges.answers("they have", true, FULL, town -> {
            town.tie(18, 19, true);
            return town.tie(19, 18, false);
        });
        Edges.answers("they have none", false, FULL, town -> {
            town.tie(19, 0, false);
            return town.tie(0, 19, true);
        });
        Edges.answers("they have none, asked the same way", false, FULL, town -> {
            town.tie(19, 0, false);
            return town.tie(19, 0, false);
        });
        Edges.answers("taken away from the first on", false, FULL, town -> {
            town.tie(0, 19, false);
            return town.tie(0, 19, true);
        });
        Edges.answers("others stay", true, ORDINARY, town -> {
            town.tie(0, 1, false);
            return town.tie(4, 1, false);
        });
        Edges.says("Returns whether they had.");
        Edges.answers("none at first", false, () -> Towns.ofOnePlace(2), town -> town.tie(0, 1, false));
        Edges.answers("twice", true, ORDINARY, town -> {
            town.tie(0, 1, true);
            return town.tie(0, 1, true);
        });
    }

    private static void tieRefuses() throws Exception {
        Edges.says("Throws `IndexOutOfBoundsException` if there is no such person, for either");
        Edges.refused("of none", Due.BOUNDS, UNPEOPLED, town -> town.tie(0, 1, true));
        Edges.refused("of one", Due.BOUNDS, ONE, town -> town.tie(0, 1, true));
        Edges.beyond("of five", Due.BOUNDS, ORDINARY, 0, 4, (town, person) -> town.tie(person, 2, true));
        Edges.beyond("of five, the other", Due.BOUNDS, ORDINARY, 0, 4, (town, other) -> town.tie(2, other, true));
        Edges.beyond("of twenty", Due.BOUNDS, FULL, 0, 19, (town, person) -> town.tie(person, 2, true));
        Edges.beyond("of twenty, the other", Due.BOUNDS, FULL, 0, 19, (town, other) -> town.tie(2, other, true));
        Edges.says("Throws `IllegalArgumentException` if both are the same");
        Edges.refused("the first", Due.ARGUMENT, FULL, town -> town.tie(0, 0, true));
        Edges.refused("the last", Due.ARGUMENT, FULL, town -> town.tie(19, 19, true));
        Edges.refused("no tie", Due.ARGUMENT, ONE, town -> town.tie(0, 0, false));
        Edges.says("Throws `UnsupportedOperationException` if a day went by");
        Edges.refused("three days", Due.UNSUPPORTED, PASSED, town -> town.tie(0, 2, true));
        Edges.refused("to take it away", Due.UNSUPPORTED, PASSED, town -> town.tie(0, 1, false));
        Edges.refused("as it is", Due.UNSUPPORTED, PASSED, town -> town.tie(0, 1, true));
        Edges.refused("all days", Due.UNSUPPORTED, ENDED, town -> town.tie(0, 19, false));
        Edges.answers("reset", true, PASSED, town -> {
            town.reset();
            return town.tie(0, 1, false);
        });
        Edges.refused("no person ahead of the same", Due.BOUNDS, ORDINARY, town -> town.tie(5, 5, true));
        Edges.refused("no person below ahead of the same", Due.BOUNDS, ORDINARY, town -> town.tie(-1, -1, true));
        Edges.refused("no person ahead of the day", Due.BOUNDS, PASSED, town -> town.tie(5, 0, true));
        Edges.refused("no other ahead of the day", Due.BOUNDS, PASSED, town -> town.tie(0, 5, true));
        Edges.refused("no person ahead of all", Due.BOUNDS, PASSED, town -> town.tie(5, 5, true));
        Edges.refused("the same ahead of the day", Due.ARGUMENT, PASSED, town -> town.tie(0, 0, true));
        Edges.allSaid();
    }

    private static void setTrait() throws Exception {
        Edges.promise(13);
        Edges.says("Sets a trait.");
        Edges.answers("it is there", 44, ORDINARY, town -> {
            town.setTrait(3, 2, 44);
            return town.trait(3, 2);
        });
        Edges.says("- `person`: the person");
        Edges.answers("the first", 10, ORDINARY, town -> town.setTrait(0, 0, 1));
        Edges.answers("the last", 90, ORDINARY, town -> town.setTrait(4, 0, 1));
        Edges.answers("the last of twenty", 33, FULL, town -> {
            town.setTrait(19, 3, 33);
            return town.trait(19, 3);
        });
        Edges.says("- `trait`: 0 to 3");
        Edges.range("trait", Due.ARGUMENT, ORDINARY, 0, 3, (town, trait) -> town.setTrait(1, trait, 5));
        Edges.says("- `value`: 0 to 99");
        Edges.range("value", Due.ARGUMENT, ORDINARY, 0, 99, (town, value) -> town.setTrait(1, 0, value));
        Edges.says("Returns the value before.");
        Edges.answers("the least", 0, ORDINARY, town -> {
            town.setTrait(1, 1, 0);
            return town.setTrait(1, 1, 7);
        });
        Edges.answers("the most", 99, ORDINARY, town -> {
            town.setTrait(1, 1, 99);
            return town.setTrait(1, 1, 7);
        });
    }

    private static void setTraitRefuses() throws Exception {
        Edges.says("Throws `IndexOutOfBoundsException` if there is no such person");
        Edges.refused("of none", Due.BOUNDS, UNPEOPLED, town -> town.setTrait(0, 0, 0));
        Edges.beyond("of one", Due.BOUNDS, ONE, 0, 0, (town, person) -> town.setTrait(person, 0, 5));
        Edges.beyond("of five", Due.BOUNDS, ORDINARY, 0, 4, (town, person) -> town.setTrait(person, 0, 5));
        Edges.beyond("of twenty", Due.BOUNDS, FULL, 0, 19, (town, person) -> town.setTrait(person, 0, 5));
        Edges.says("Throws `IllegalArgumentException` if a number is out of range");
        Edges.refused("both", Due.ARGUMENT, FULL, town -> town.setTrait(19, 4, 100));
        Edges.refused("the value", Due.ARGUMENT, FULL, town -> town.setTrait(19, 3, 100));
        Edges.refused("the trait", Due.ARGUMENT, FULL, town -> town.setTrait(19, 4, 99));
        Edges.says("Throws `UnsupportedOperationException` if a day went by");
        Edges.refused("three days", Due.UNSUPPORTED, PASSED, town -> town.setTrait(0, 0, 5));
        Edges.refused("all days", Due.UNSUPPORTED, ENDED, town -> town.setTrait(19, 3, 5));
        Edges.answers("reset", 10, PASSED, town -> {
            town.reset();
            return town.setTrait(0, 0, 5);
        });
        Edges.refused("no person ahead of the trait", Due.BOUNDS, ORDINARY, town -> town.setTrait(5, 4, 5));
        Edges.refused("no person ahead of the value", Due.BOUNDS, ORDINARY, town -> town.setTrait(-1, 0, 100));
        Edges.refused("no person ahead of the day", Due.BOUNDS, PASSED, town -> town.setTrait(5, 0, 5));
        Edges.refused("no person ahead of all", Due.BOUNDS, PASSED, town -> town.setTrait(5, 4, 100));
        Edges.refused("the trait ahead of the day", Due.ARGUMENT, PASSED, town -> town.setTrait(0, 4, 5));
        Edges.refused("the value ahead of the day", Due.ARGUMENT, PASSED, town -> town.setTrait(0, 0, 100));
        Edges.allSaid();
    }
}
