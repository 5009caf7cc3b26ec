/** The sentences of "Terms" on places, people and draws. */
final class TermsOfPeople {
    private static final Edges.Town EMPTY = Towns::empty;
    private static final Edges.Town ORDINARY = Towns::ordinary;
    private static final Edges.Town FULL = Towns::full;
    private static final Edges.Town ENDED = Towns::ended;

    private TermsOfPeople() {
    }

    static void places() {
        Edges.says("At most 5 are numbered from 0.");
        Edges.answers("all five, in order", "0 1 2 3 4", EMPTY, town -> town.addPlace() + " " + town.addPlace() + " "
                + town.addPlace() + " " + town.addPlace() + " " + town.addPlace());
        Edges.refused("the sixth", Due.STATE, FULL, Madeham::addPlace);
        Edges.says("Two of them can have a link of 1 to 60 minutes, the same both ways.");
        Edges.answers("1", "1 1", FULL, town -> linked(town, 1));
        Edges.answers("60", "60 60", FULL, town -> linked(town, 60));
        Edges.refused("61", Due.ARGUMENT, FULL, town -> town.link(4, 2, 61));
        Edges.answers("0 is no link", "0 120", FULL, town -> linked(town, 0));
        Edges.says("The way of two places is the least sum of minutes over links, 0 of a place to itself, 999 if there is"
                + " none.");
        Edges.answers("over four links", 240, FULL, town -> town.way(0, 4));
        Edges.answers("over one that is as long as two", 120, FULL, town -> {
            town.link(0, 3, 60);
            town.link(0, 4, 60);
            return town.way(4, 1);
        });
        Edges.answers("two links that are less than one", 35, ORDINARY, town -> {
            town.link(0, 2, 36);
            return town.way(0, 2);
        });
        Edges.answers("one that is less than two links", 34, ORDINARY, town -> {
            town.link(0, 2, 34);
            return town.way(0, 2);
        });
        Edges.answers("a round is not taken", 0, FULL, town -> {
            town.link(0, 4, 1);
            return town.way(2, 2);
        });
        Edges.answers("none to a place without links", 999, ORDINARY, town -> {
            town.addPlace();
            return town.way(0, 3);
        });
        Edges.answers("none between two parts", "60 60 999 999", FULL, town -> {
            town.link(1, 2, 0);
            return town.way(0, 1) + " " + town.way(2, 3) + " " + town.way(0, 4) + " " + town.way(3, 1);
        });
    }

    /** What the link of two places is told to have been the other way, and the way. */
    private static String linked(Madeham town, int minutes) {
        town.link(4, 2, minutes);
        int way = town.way(2, 4);
        return town.link(2, 4, 0) + " " + way;
    }

    static void margins() {
        Edges.says("There are the groups 0 to 2.");
        Edges.range("of a margin", Due.ARGUMENT, ORDINARY, 0, 2, (town, group) -> town.setGroup(group, 1));
        Edges.range("of a cell", Due.ARGUMENT, ORDINARY, 0, 2, (town, group) -> town.cell(group, 1));
        Edges.range("of a mean", Due.ARGUMENT, ORDINARY, 0, 2, (town, group) -> town.groupMean(group, 1));
        Edges.says("The margins tell how many people are of each group, and how many live at each place, 0 to 20 each.");
        Edges.answers("0 and 20", "20 0 0 20", EMPTY, town -> {
            town.addPlace();
            town.addPlace();
            town.setGroup(1, 20);
            town.setHomes(1, 20);
            town.make();
            return town.cell(1, 1) + " " + town.cell(1, 0) + " " + town.cell(0, 1) + " " + town.setGroup(1, 0);
        });
        Edges.refused("21 of a group", Due.ARGUMENT, ORDINARY, town -> town.setGroup(1, 21));
        Edges.refused("21 at a place", Due.ARGUMENT, ORDINARY, town -> town.setHomes(1, 21));
        Edges.refused("-1 of a group", Due.ARGUMENT, ORDINARY, town -> town.setGroup(1, -1));
        Edges.refused("-1 at a place", Due.ARGUMENT, ORDINARY, town -> town.setHomes(1, -1));
    }

    /** A town of these margins, of which people are made. */
    private static Madeham made(int[] groups, int... homes) {
        Madeham town = new Madeham();
        for (int group = 0; group < 3; group++) {
            town.setGroup(group, groups[group]);
        }
        for (int place = 0; place < homes.length; place++) {
            town.addPlace();
            town.setHomes(place, homes[place]);
        }
        town.make();
        return town;
    }

    private static int[] of(int... groups) {
        return groups;
    }

    private static String cells(Madeham town, int places) {
        StringBuilder text = new StringBuilder();
        for (int group = 0; group < 3; group++) {
            text.append(group == 0 ? "" : " / ");
            for (int place = 0; place < places; place++) {
                text.append(place == 0 ? "" : " ").append(town.cell(group, place));
            }
        }
        return text.toString();
    }

    private static void cells(String what, String want, int[] groups, int... homes) {
        Edges.answers(what, want, () -> made(groups, homes), town -> cells(town, homes.length));
    }

    static void cells() {
        Edges.says("People can be made if both sums are alike, 1 to 20: of a group at a place at first the product of both"
                + " margins, divided by the sum, cut; then, by groups, and for each by places, as many more as both margins"
                + " have left.");
        cells("1", "0 / 0 / 1", of(0, 0, 1), 1);
        cells("20", "20 / 0 / 0", of(20, 0, 0), 20);
        cells("products that divide", "4 6 / 4 6 / 0 0", of(10, 10, 0), 8, 12);
        // 5.25 1.75 / 5.25 1.75 / 4.5 1.5 are cut, and each group has one more; the places have one and two more
        cells("the first group takes what is left at the first place", "6 1 / 5 2 / 4 2", of(7, 7, 6), 15, 5);
        // 0.5 0.5 / 0.5 0.5 / 0 0
        cells("halves are cut", "1 0 / 0 1 / 0 0", of(1, 1, 0), 1, 1);
        // 1.2 0.8 / 0.6 0.4 / 1.2 0.8: 1 0 / 0 0 / 1 0, and then the group 0 has one more at the place 0
        cells("by groups ahead of places", "2 0 / 0 1 / 1 1", of(2, 1, 2), 3, 2);
        // all are cut to 0
        cells("all by what is left", "1 0 0 0 0 / 0 1 1 0 0 / 0 0 0 1 1", of(1, 2, 2), 1, 1, 1, 1, 1);
        cells("five places and none at some", "0 3 0 0 1 / 0 0 0 0 0 / 0 9 0 0 3", of(4, 0, 12), 0, 12, 0, 0, 4);
        Edges.refused("0 alike", Due.UNSUPPORTED, EMPTY, Madeham::make);
        Edges.refused("21 alike", Due.UNSUPPORTED, () -> {
            Madeham town = Towns.ofOnePlace(20);
            town.addPlace();
            town.setGroup(1, 1);
            town.setHomes(1, 1);
            return town;
        }, Madeham::make);
        Edges.refused("not alike", Due.UNSUPPORTED, () -> {
            Madeham town = Towns.ofOnePlace(19);
            town.setGroup(0, 20);
            return town;
        }, Madeham::make);
    }

    static void people() {
        Edges.says("They are numbered from 0 by groups, then by places.");
        Edges.answers("groups and homes", "00 00 11 11 22", ORDINARY, town -> numbered(town, 5));
        Edges.answers("the six, then", "00 00 00 00 00 00 01 10 10 10 10 10 11 11 20 20 20 20 21 21",
                () -> made(of(7, 7, 6), 15, 5), town -> numbered(town, 20));
        Edges.answers("one", "24", () -> made(of(0, 0, 1), 0, 0, 0, 0, 1), town -> numbered(town, 1));
        Edges.says("Each works at the place 0 at first, and has four traits, 0 to 99 always, what is beyond being held; at"
                + " first a trait is the draw of the person on the day 0 for the purpose 100 and the trait, together.");
        Edges.answers("works of those who live elsewhere", "0 0", () -> made(of(0, 0, 2), 0, 1, 1),
                town -> town.setWork(0, 1) + " " + town.setWork(1, 2));
        for (int trait = 0; trait < 4; trait++) {
            int which = trait;
            for (int person : new int[] {0, 19}) {
                int drawn = new Madeham().draw(person, 0, 100 + trait);
                Edges.answers("the trait " + trait, drawn, FULL, town -> town.trait(person, which));
            }
        }
        Edges.refused("no fifth trait", Due.ARGUMENT, FULL, town -> town.trait(0, 4));
        Edges.answers("99 is not held", "99", () -> Towns.with(90), town -> behind(town, 9, 1));
        Edges.answers("100 is held", "99", () -> Towns.with(91), town -> behind(town, 9, 1));
        Edges.answers("it stays held", "99", () -> Towns.with(91), town -> behind(town, 9, 30));
        Edges.answers("0 is not held", "0", () -> Towns.with(9), town -> behind(town, -9, 1));
        Edges.answers("-1 is held", "0", () -> Towns.with(8), town -> behind(town, -9, 1));
        Edges.answers("held in a run in thought", 99, () -> Towns.with(91), town -> {
            town.addRule('a', 0, 0, 0, 9, 100);
            return town.effect(1, 1, 1, 0) + 91;
        });
        Edges.answers("held ahead of the next rule", "98", () -> Towns.with(95), town -> {
            town.addRule('a', 0, 0, 0, 9, 100);
            return behind(town, -1, 1);
        });
    }

    private static String numbered(Madeham town, int people) {
        StringBuilder text = new StringBuilder();
        for (int person = 0; person < people; person++) {
            text.append(person == 0 ? "" : " ").append(town.groupOf(person)).append(town.home(person));
        }
        return text.toString();
    }

    /** The trait 0 of the person 0, behind days on which it becomes the amount more. */
    private static String behind(Madeham town, int amount, int days) {
        town.addRule('a', 0, 0, 0, amount, 100);
        town.pass(days);
        return Towns.values(town, 1);
    }

    static void makeAgain() {
        Edges.says("To make people takes earlier ones away, with their ties, and what was set for them.");
        Edges.refused("the last one", Due.BOUNDS, () -> again(1), town -> town.home(1));
        Edges.answers("the first one stays", 0, () -> again(1), town -> town.home(0));
        Edges.answers("ties", false, () -> again(5), town -> town.tie(0, 1, true));
        Edges.answers("ties the other way", false, () -> again(5), town -> town.tie(4, 1, true));
        Edges.answers("works", 0, () -> again(5), town -> town.setWork(4, 1));
        Edges.answers("traits", again(5).draw(4, 0, 100), () -> again(5), town -> town.trait(4, 0));
        Edges.answers("ties of those who come later on", false, () -> {
            Madeham town = Towns.ofOnePlace(20);
            town.tie(19, 18, true);
            return twentyAnew(town);
        }, town -> town.tie(18, 19, true));
        Edges.answers("works of those who come later on", 0, () -> {
            Madeham town = Towns.ofOnePlace(20);
            town.addPlace();
            town.setWork(19, 1);
            return twentyAnew(town);
        }, town -> town.setWork(19, 0));
        Edges.answers("what was told of rules stays", Towns.ordinary().error(0, 5, true), ORDINARY, town -> {
            town.make();
            Madeham first = Towns.ordinary();
            for (int person = 0; person < 5; person++) {
                town.setTrait(person, 0, first.trait(person, 0));
            }
            town.setWork(0, 2);
            town.setWork(4, 1);
            town.tie(0, 1, true);
            town.tie(1, 4, true);
            return town.error(0, 5, true);
        });
    }

    /** The ordinary town, with people made anew, the last of them at the place 0 and of the group 0. */
    private static Madeham again(int people) {
        Madeham town = Towns.ordinary();
        for (int at = 0; at < 3; at++) {
            town.setGroup(at, at == 0 ? people : 0);
            town.setHomes(at, at == 0 ? people : 0);
        }
        town.make();
        return town;
    }

    /** One in between, and then twenty again. */
    private static Madeham twentyAnew(Madeham town) {
        for (int people : new int[] {1, 20}) {
            town.setGroup(0, people);
            town.setHomes(0, people);
            town.make();
        }
        return town;
    }

    static void draws() {
        Edges.says("The draw of a person on a day for a purpose is m modulo 100, m being the seed, 1 at first, times 31, and"
                + " the person times 7919, and the day times 104729, and the purpose times 1299709, together, times 48271"
                + " modulo 2147483647.");
        Edges.answers("31 times 48271", 31 * 48271 % 100, EMPTY, town -> town.draw(0, 0, 0));
        Edges.answers("a person", (31 + 7919) * 48271 % 100, EMPTY, town -> town.draw(1, 0, 0));
        Edges.answers("below 2147483647", 1912786646 % 100, EMPTY, town -> town.draw(5, 0, 0));
        Edges.answers("beyond 2147483647", (2295044695L - 2147483647) % 100, EMPTY, town -> (long) town.draw(6, 0, 0));
        Edges.answers("a day", 104760L * 48271 % 2147483647 % 100, EMPTY, town -> (long) town.draw(0, 1, 0));
        Edges.answers("a purpose", 1299740L * 48271 % 2147483647 % 100, EMPTY, town -> (long) town.draw(0, 0, 1));
        Edges.answers("the seed", 31L * 999999 * 48271 % 2147483647 % 100, EMPTY, town -> {
            town.setSeed(999999);
            return (long) town.draw(0, 0, 0);
        });
        long most = 31L * 999999 + 7919L * 19 + 104729L * 60 + 1299709L * 199;
        Edges.answers("the most of all", most * 48271 % 2147483647 % 100, EMPTY, town -> {
            town.setSeed(999999);
            return (long) town.draw(19, 60, 199);
        });
        Edges.answers("days change no draw", new Madeham().draw(3, 4, 5), ENDED, town -> town.draw(3, 4, 5));
    }
}
