/** Towns that several tests begin with. */
final class Towns {
    private Towns() {
    }

    /** Some people of the group 0 at the place 0, without rules. */
    static Madeham ofOnePlace(int people) {
        Madeham town = new Madeham();
        town.addPlace();
        town.setGroup(0, people);
        town.setHomes(0, people);
        town.make();
        return town;
    }

    /** The same, with these values of the trait 0, by persons. */
    static Madeham with(int... values) {
        Madeham town = ofOnePlace(values.length);
        for (int person = 0; person < values.length; person++) {
            town.setTrait(person, 0, values[person]);
        }
        return town;
    }

    /** The values of the trait 0, by persons. */
    static String values(Madeham town, int people) {
        StringBuilder text = new StringBuilder();
        for (int person = 0; person < people; person++) {
            text.append(person == 0 ? "" : " ").append(town.trait(person, 0));
        }
        return text.toString();
    }
}
