/** The boundary cases of the promises 1 to 4: places, links and ways. */
public final class PlaceEdgesTest {
    private static final Edges.Town EMPTY = Towns::empty;
    private static final Edges.Town ORDINARY = Towns::ordinary;
    private static final Edges.Town PASSED = Towns::passed;
    private static final Edges.Town FULL = Towns::full;
    private static final Edges.Town ENDED = Towns::ended;

    public static void main(String[] args) throws Exception {
        newObject();
        addPlace();
        addPlaceRefuses();
        link();
        linkNumbers();
        linkRefuses();
        linkRefusesInOrder();
        way();
        wayRefuses();
        Due.end();
    }

    private static void newObject() throws Exception {
        Edges.promise(1);
        Edges.says("Creates a town without places and people, in the mode 't'.");
        Edges.refused("no place 0", Due.BOUNDS, EMPTY, town -> town.way(0, 0));
        Edges.refused("no person 0", Due.BOUNDS, EMPTY, town -> town.home(0));
        Edges.refused("no mean of nobody", Due.UNSUPPORTED, EMPTY, town -> town.mean(0));
        Edges.refused("no rule 0", Due.BOUNDS, EMPTY, town -> town.setAmount(0, 1));
        Edges.answers("the mode 't'", 't', EMPTY, town -> town.setMode('a'));
        Edges.answers("the seed 1", 1, EMPTY, town -> town.setSeed(2));
        Edges.answers("no day", 0, EMPTY, Madeham::today);
        Edges.answers("no figure", 1, EMPTY, town -> town.tell(1, 0, false));
        Edges.answers("no rule", 0, EMPTY, town -> town.addRule('a', 0, 0, 0, 0, 0));
        Edges.allSaid();
    }

    private static void addPlace() throws Exception {
        Edges.promise(2);
        Edges.says("Adds a place.");
        Edges.answers("the place is there", 0, EMPTY, town -> {
            town.addPlace();
            return town.way(0, 0);
        });
        Edges.answers("it has no way to others", 999, ORDINARY, town -> {
            town.addPlace();
            return town.way(3, 0);
        });
        Edges.answers("nobody lives there", 0, ORDINARY, town -> {
            town.addPlace();
            return town.cell(2, 3);
        });
        Edges.answers("the margin there is 0", 0, ORDINARY, town -> {
            town.addPlace();
            return town.setHomes(3, 20);
        });
        Edges.says("Returns its number.");
        Edges.answers("the first is 0", 0, EMPTY, Madeham::addPlace);
        Edges.answers("behind three is 3", 3, ORDINARY, Madeham::addPlace);
        Edges.answers("the fifth is 4", 4, PlaceEdgesTest::withFourPlaces, Madeham::addPlace);
    }

    private static Madeham withFourPlaces() {
        Madeham town = Towns.ordinary();
        town.addPlace();
        return town;
    }

    private static void addPlaceRefuses() throws Exception {
        Edges.says("Throws `UnsupportedOperationException` if a day went by");
        Edges.refused("three days", Due.UNSUPPORTED, PASSED, Madeham::addPlace);
        Edges.refused("one day", Due.UNSUPPORTED, PlaceEdgesTest::withOneDay, Madeham::addPlace);
        Edges.answers("reset", 3, PASSED, town -> {
            town.reset();
            return town.addPlace();
        });
        Edges.says("Throws `IllegalStateException` if there are 5");
        Edges.refused("five", Due.STATE, FULL, Madeham::addPlace);
        Edges.refused("five, and nobody", Due.STATE, PlaceEdgesTest::withFivePlacesOnly, Madeham::addPlace);
        Edges.refused("the day ahead of five", Due.UNSUPPORTED, ENDED, Madeham::addPlace);
        Edges.allSaid();
    }

    private static Madeham withOneDay() {
        Madeham town = Towns.ordinary();
        town.pass(1);
        return town;
    }

    private static Madeham withFivePlacesOnly() {
        Madeham town = new Madeham();
        for (int place = 0; place < 5; place++) {
            town.addPlace();
        }
        return town;
    }

    private static void link() throws Exception {
        Edges.promise(3);
        Edges.says("Links two places, anew perhaps.");
        Edges.answers("anew", 20, ORDINARY, town -> town.link(0, 1, 9));
        Edges.answers("the way is anew", 9, ORDINARY, town -> {
            town.link(0, 1, 9);
            return town.way(1, 0);
        });
        Edges.answers("alike", 20, ORDINARY, town -> {
            town.link(0, 1, 20);
            return town.link(0, 1, 20);
        });
        Edges.says("- `place`: the place");
        Edges.answers("the first", 0, FULL, town -> town.link(0, 2, 5));
        Edges.answers("the last", 60, FULL, town -> town.link(4, 3, 5));
        Edges.says("- `other`: the other one");
        Edges.answers("the first", 0, FULL, town -> town.link(2, 0, 5));
        Edges.answers("the last", 60, FULL, town -> town.link(3, 4, 5));
    }

    private static void linkNumbers() throws Exception {
        Edges.says("- `minutes`: 0 for none, 1 to 60");
        Edges.range("minutes", Due.ARGUMENT, ORDINARY, 0, 60, (town, minutes) -> town.link(0, 1, minutes));
        Edges.answers("0 takes the link away", 999, ORDINARY, town -> {
            town.link(0, 1, 0);
            return town.way(0, 1);
        });
        Edges.answers("1 is a link", 1, ORDINARY, town -> {
            town.link(0, 1, 1);
            return town.way(0, 1);
        });
        Edges.answers("60 is a link", 60, ORDINARY, town -> {
            town.link(0, 1, 60);
            return town.way(0, 1);
        });
        Edges.says("Returns the minutes before, 0 for none.");
        Edges.answers("none", 0, ORDINARY, town -> town.link(0, 2, 60));
        Edges.answers("sixty", 60, FULL, town -> town.link(0, 1, 0));
        Edges.answers("one", 1, ORDINARY, town -> {
            town.link(2, 0, 1);
            return town.link(0, 2, 0);
        });
        Edges.answers("taken away", 0, FULL, town -> {
            town.link(1, 0, 0);
            return town.link(0, 1, 0);
        });
    }

    private static void linkRefuses() throws Exception {
        Edges.says("Throws `IndexOutOfBoundsException` if there is no such place, for either");
        Edges.beyond("of three", Due.BOUNDS, ORDINARY, 0, 2, (town, place) -> town.link(place, 1, 5));
        Edges.beyond("of three, the other", Due.BOUNDS, ORDINARY, 0, 2, (town, other) -> town.link(1, other, 5));
        Edges.beyond("of five", Due.BOUNDS, FULL, 0, 4, (town, place) -> town.link(place, 1, 5));
        Edges.beyond("of five, the other", Due.BOUNDS, FULL, 0, 4, (town, other) -> town.link(1, other, 5));
        Edges.refused("of none", Due.BOUNDS, EMPTY, town -> town.link(0, 1, 5));
        Edges.says("Throws `IllegalArgumentException` if both are the same, or a number is out of range");
        Edges.refused("the first twice", Due.ARGUMENT, FULL, town -> town.link(0, 0, 5));
        Edges.refused("the last twice", Due.ARGUMENT, FULL, town -> town.link(4, 4, 5));
        Edges.refused("the same without a link", Due.ARGUMENT, FULL, town -> town.link(4, 4, 0));
        Edges.refused("61 minutes", Due.ARGUMENT, FULL, town -> town.link(0, 1, 61));
        Edges.refused("-1 minutes", Due.ARGUMENT, FULL, town -> town.link(0, 1, -1));
        Edges.says("Throws `UnsupportedOperationException` if a day went by");
        Edges.refused("one day", Due.UNSUPPORTED, PlaceEdgesTest::withOneDay, town -> town.link(0, 1, 5));
        Edges.refused("all days", Due.UNSUPPORTED, ENDED, town -> town.link(0, 1, 5));
        Edges.refused("as it is", Due.UNSUPPORTED, PASSED, town -> town.link(0, 1, 20));
        Edges.answers("reset", 20, PASSED, town -> {
            town.reset();
            return town.link(0, 1, 5);
        });
    }

    private static void linkRefusesInOrder() throws Exception {
        Edges.refused("no place ahead of the same", Due.BOUNDS, ORDINARY, town -> town.link(3, 3, 5));
        Edges.refused("no place ahead of the minutes", Due.BOUNDS, ORDINARY, town -> town.link(3, 0, 61));
        Edges.refused("no other ahead of the minutes", Due.BOUNDS, ORDINARY, town -> town.link(0, -1, -1));
        Edges.refused("no place ahead of the day", Due.BOUNDS, PASSED, town -> town.link(3, 0, 5));
        Edges.refused("no other ahead of the day", Due.BOUNDS, PASSED, town -> town.link(0, 3, 5));
        Edges.refused("no place ahead of all", Due.BOUNDS, PASSED, town -> town.link(-1, -1, 61));
        Edges.refused("the same ahead of the day", Due.ARGUMENT, PASSED, town -> town.link(1, 1, 5));
        Edges.refused("the minutes ahead of the day", Due.ARGUMENT, PASSED, town -> town.link(0, 1, 61));
        Edges.allSaid();
    }

    private static void way() throws Exception {
        Edges.promise(4);
        Edges.says("Returns the way of two places.");
        Edges.answers("by a link", 20, ORDINARY, town -> town.way(0, 1));
        Edges.answers("by two links", 35, ORDINARY, town -> town.way(2, 0));
        Edges.says("- `place`: the place");
        Edges.answers("the first", 240, FULL, town -> town.way(0, 4));
        Edges.answers("the last", 240, FULL, town -> town.way(4, 0));
        Edges.says("- `other`: the other one, or the same");
        Edges.answers("the first", 60, FULL, town -> town.way(1, 0));
        Edges.answers("the last", 60, FULL, town -> town.way(3, 4));
        Edges.answers("the first twice", 0, FULL, town -> town.way(0, 0));
        Edges.answers("the last twice", 0, FULL, town -> town.way(4, 4));
        Edges.answers("the only one twice", 0, PlaceEdgesTest::withOnePlaceOnly, town -> town.way(0, 0));
        Edges.says("Returns the minutes.");
        Edges.answers("the most there are", 240, FULL, town -> town.way(0, 4));
        Edges.answers("none", 999, PlaceEdgesTest::withFivePlacesOnly, town -> town.way(0, 4));
        Edges.answers("days change nothing", 240, ENDED, town -> town.way(0, 4));
        Edges.answers("a link away cuts all ways over it", 999, FULL, town -> {
            town.link(2, 1, 0);
            return town.way(0, 4);
        });
    }

    private static Madeham withOnePlaceOnly() {
        Madeham town = new Madeham();
        town.addPlace();
        return town;
    }

    private static void wayRefuses() throws Exception {
        Edges.says("Throws `IndexOutOfBoundsException` if there is no such place, for either");
        Edges.refused("of none", Due.BOUNDS, EMPTY, town -> town.way(0, 0));
        Edges.refused("of one", Due.BOUNDS, PlaceEdgesTest::withOnePlaceOnly, town -> town.way(0, 1));
        Edges.beyond("of three", Due.BOUNDS, ORDINARY, 0, 2, (town, place) -> town.way(place, 0));
        Edges.beyond("of three, the other", Due.BOUNDS, ORDINARY, 0, 2, (town, other) -> town.way(0, other));
        Edges.beyond("of five", Due.BOUNDS, FULL, 0, 4, (town, place) -> town.way(place, 0));
        Edges.beyond("of five, the other", Due.BOUNDS, ENDED, 0, 4, (town, other) -> town.way(0, other));
        Edges.beyond("twice", Due.BOUNDS, FULL, 0, 4, (town, place) -> town.way(place, place));
        Edges.allSaid();
    }
}
