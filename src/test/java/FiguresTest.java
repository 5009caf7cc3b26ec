/** Promises 37 to 40. */
public final class FiguresTest {
    public static void main(String[] args) {
        checksum();
        shareBits();
        meanWay();
        isSound();
        Due.end();
    }

    private static void checksum() {
        Madeham none = new Madeham();
        Due.is("37 nobody", 217L, none::checksum);
        Madeham town = Towns.with(5, 6);
        town.addRule('a', 0, 0, 0, 1, 100);
        long first = 7;
        for (int person = 0; person < 2; person++) {
            for (int trait = 0; trait < 4; trait++) {
                first = 31 * first + town.trait(person, trait);
            }
        }
        Due.is("37 no day", 31 * first, town::checksum);
        town.pass(2);
        // the trait 0 of the person 0 is 2 more, with 7 numbers behind it; that of the person 1, with 3
        long more = 2 * 31L * 31 * 31 * (31L * 31 * 31 * 31 + 1);
        Due.is("37 two days", 31 * (first + more) + 2, town::checksum);
    }

    private static void shareBits() {
        Due.is("38 no people", Due.ARITHMETIC, () -> new Madeham().shareBits(0));
        Due.is("38 argument first", Due.ARGUMENT, () -> new Madeham().shareBits(4));
        Due.is("38 trait below", Due.ARGUMENT, () -> new Madeham().shareBits(-1));
        for (int people = 1; people <= 20; people++) {
            Madeham town = Towns.with(new int[people]);
            for (int many = 0; many <= people; many++) {
                if (many > 0) {
                    town.setTrait(many - 1, 0, 50);
                }
                int want = Float.floatToIntBits((float) many / (float) people);
                Due.is("38 " + many + " of " + people, want, () -> town.shareBits(0));
            }
        }
        Madeham edge = Towns.with(49, 50, 99);
        Due.is("38 50 or more", Float.floatToIntBits(2f / 3f), () -> edge.shareBits(0));
    }

    private static void meanWay() {
        Due.is("39 no people", Due.ARITHMETIC, () -> new Madeham().meanWay());
        Madeham town = Towns.ofOnePlace(3);
        Due.is("39 all at home", 0.0, town::meanWay);
        town.addPlace();
        town.addPlace();
        town.link(0, 1, 10);
        town.setWork(0, 1);
        Due.is("39 ten by three", 10.0 / 3.0, town::meanWay);
        town.setWork(2, 2);
        Due.is("39 with none", 1009.0 / 3.0, town::meanWay);
        Due.is("39 twenty", 0.0, Towns.ofOnePlace(20)::meanWay);
    }

    private static void isSound() {
        Madeham town = new Madeham();
        Due.is("40 new", true, town::isSound);
        for (int place = 0; place < 5; place++) {
            town.addPlace();
            town.setHomes(place, place);
        }
        town.link(0, 3, 60);
        town.link(3, 1, 1);
        town.link(0, 1, 2);
        town.setGroup(0, 7);
        town.setGroup(1, 2);
        town.setGroup(2, 1);
        town.make();
        Due.is("40 made", true, town::isSound);
        town.tie(0, 9, true);
        town.addRule('i', 0, 0, 0, -9, 70);
        town.addRule('a', 0, 0, 40, 9, 40);
        town.pass(30);
        Due.is("40 passed", true, town::isSound);
        town.setGroup(0, 1);
        town.setHomes(4, 9);
        Due.is("40 by the margins by which they were made", true, town::isSound);
        town.reset();
        Due.is("40 reset", true, town::isSound);
    }
}
