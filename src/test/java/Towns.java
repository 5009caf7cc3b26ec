/** Towns that several tests begin with. */
final class Towns {
    private Towns() {
    }

    /** Some people of the group 0 at the place 0, without rules. */
    static Madeham ofOnePlace(int people) {
        Madeham town = new Madeham();
        town.addPlace();
        town.setGroup(0, people);
        town.setHomes(0, people);
        town.make();
        return town;
    }

    /** The same, with these values of the trait 0, by persons. */
    static Madeham with(int... values) {
        Madeham town = ofOnePlace(values.length);
        for (int person = 0; person < values.length; person++) {
            town.setTrait(person, 0, values[person]);
        }
        return town;
    }

    /** The values of the trait 0, by persons. */
    static String values(Madeham town, int people) {
        StringBuilder text = new StringBuilder();
        for (int person = 0; person < people; person++) {
            text.append(person == 0 ? "" : " ").append(town.trait(person, 0));
        }
        return text.toString();
    }

    static Madeham empty() {
        return new Madeham();
    }

    /** Three places, five people, four rules, of which the last is off, and two figures; no day went by. */
    static Madeham ordinary() {
        Madeham town = new Madeham();
        for (int place = 0; place < 3; place++) {
            town.addPlace();
        }
        town.link(0, 1, 20);
        town.link(1, 2, 15);
        int[] margin = {2, 2, 1};
        for (int at = 0; at < 3; at++) {
            town.setGroup(at, margin[at]);
            town.setHomes(at, margin[at]);
        }
        town.setSeed(77);
        town.setMode('a');
        town.make();
        for (int person = 0; person < 5; person++) {
            town.setTrait(person, 0, 10 + 20 * person);
        }
        town.setWork(0, 2);
        town.setWork(4, 1);
        town.tie(0, 1, true);
        town.tie(1, 4, true);
        town.addRule('a', 0, 0, 20, 5, 100);
        town.addRule('i', 0, 1, 0, -3, 50);
        town.addRule('t', 1, 0, 25, 4, 100);
        town.addRule('a', 2, 0, 0, -2, 80);
        town.setOn(3, false);
        town.tell(2, 4500, false);
        town.tell(3, 5000, true);
        return town;
    }

    /** The ordinary town behind three days. */
    static Madeham passed() {
        Madeham town = ordinary();
        town.pass(3);
        return town;
    }

    /** Places, rules and figures, but no people. */
    static Madeham unpeopled() {
        Madeham town = new Madeham();
        town.addPlace();
        town.addPlace();
        town.addRule('a', 0, 0, 0, 5, 100);
        town.addRule('a', 1, 1, 50, 1, 100);
        town.tell(2, 4500, false);
        town.tell(3, 5000, true);
        return town;
    }

    /** As much as a town can hold: 5 places, 20 people, 6 rules and 10 figures; no day went by. */
    static Madeham full() {
        Madeham town = new Madeham();
        for (int place = 0; place < 5; place++) {
            town.addPlace();
            town.setHomes(place, 4);
        }
        for (int place = 1; place < 5; place++) {
            town.link(place - 1, place, 60);
        }
        town.setGroup(0, 7);
        town.setGroup(1, 7);
        town.setGroup(2, 6);
        town.make();
        town.tie(0, 19, true);
        town.setWork(19, 4);
        for (int rule = 0; rule < 6; rule++) {
            town.addRule("ait".charAt(rule % 3), rule % 4, (rule + 1) % 4, 10 * rule, rule - 3, 100 - 10 * rule);
        }
        for (int figure = 1; figure <= 10; figure++) {
            town.tell(6 * figure, 500 * figure, figure % 2 == 0);
        }
        return town;
    }

    /** The full town behind all days that there are. */
    static Madeham ended() {
        Madeham town = full();
        town.pass(30);
        town.pass(30);
        return town;
    }
}
