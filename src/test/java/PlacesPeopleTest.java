/** Promises 1 to 13. */
public final class PlacesPeopleTest {
    public static void main(String[] args) {
        newObject();
        addPlace();
        link();
        way();
        setGroup();
        setHomes();
        make();
        makeAgain();
        cell();
        home();
        groupOf();
        setWork();
        tie();
        setTrait();
        Due.end();
    }

    private static void newObject() {
        Madeham town = new Madeham();
        Due.is("1 mode", 't', () -> town.setMode('t'));
        Due.is("1 seed", 1, () -> town.setSeed(1));
        Due.is("1 today", 0, town::today);
        Due.is("1 no place", Due.BOUNDS, () -> town.way(0, 0));
        Due.is("1 no person", Due.BOUNDS, () -> town.home(0));
        Due.is("1 no rule", Due.BOUNDS, () -> town.setOn(0, true));
        Due.is("1 group 2", 0, () -> town.setGroup(2, 0));
        Due.is("1 sound", true, town::isSound);
    }

    private static void addPlace() {
        Madeham town = Towns.ofOnePlace(1);
        for (int place = 1; place < 5; place++) {
            Due.is("2 place", place, town::addPlace);
        }
        Due.is("2 full", Due.STATE, town::addPlace);
        Due.is("2 full still", Due.STATE, town::addPlace);
        Due.is("2 no sixth", Due.BOUNDS, () -> town.way(0, 5));
        town.pass(1);
        Due.is("2 a day went by, and full", Due.UNSUPPORTED, town::addPlace);
        town.reset();
        Due.is("2 full behind reset", Due.STATE, town::addPlace);
        Madeham small = Towns.ofOnePlace(1);
        small.pass(1);
        Due.is("2 a day went by", Due.UNSUPPORTED, small::addPlace);
        Due.is("2 nothing added", Due.BOUNDS, () -> small.way(0, 1));
        small.reset();
        Due.is("2 behind reset", 1, small::addPlace);
    }

    private static void link() {
        Madeham town = Towns.ofOnePlace(1);
        town.addPlace();
        Due.is("3 first", 0, () -> town.link(0, 1, 60));
        Due.is("3 anew, turned", 60, () -> town.link(1, 0, 1));
        Due.is("3 both ways", 1, () -> town.link(0, 1, 7));
        Due.is("3 too many", Due.ARGUMENT, () -> town.link(0, 1, 61));
        Due.is("3 too few", Due.ARGUMENT, () -> town.link(0, 1, -1));
        Due.is("3 alike", Due.ARGUMENT, () -> town.link(1, 1, 5));
        Due.is("3 no place", Due.BOUNDS, () -> town.link(2, 0, 5));
        Due.is("3 no other", Due.BOUNDS, () -> town.link(0, 2, 5));
        Due.is("3 no place below", Due.BOUNDS, () -> town.link(-1, 0, 61));
        Due.is("3 places first", Due.BOUNDS, () -> town.link(9, 9, 99));
        town.pass(1);
        Due.is("3 a day went by", Due.UNSUPPORTED, () -> town.link(0, 1, 5));
        Due.is("3 argument ahead of the day", Due.ARGUMENT, () -> town.link(0, 0, 5));
        Due.is("3 range ahead of the day", Due.ARGUMENT, () -> town.link(0, 1, 61));
        Due.is("3 place ahead of the day", Due.BOUNDS, () -> town.link(0, 2, 5));
        town.reset();
        Due.is("3 unchanged", 7, () -> town.link(0, 1, 0));
        Due.is("3 none", 0, () -> town.link(0, 1, 0));
    }

    private static void way() {
        Madeham town = new Madeham();
        for (int place = 0; place < 5; place++) {
            town.addPlace();
        }
        Due.is("4 none", 999, () -> town.way(0, 4));
        Due.is("4 itself", 0, () -> town.way(3, 3));
        for (int place = 0; place < 4; place++) {
            town.link(place, place + 1, 60);
        }
        Due.is("4 over four links", 240, () -> town.way(4, 0));
        town.link(0, 2, 50);
        town.link(2, 4, 49);
        Due.is("4 over two", 99, () -> town.way(0, 4));
        town.link(1, 4, 10);
        Due.is("4 over two others", 70, () -> town.way(0, 4));
        Due.is("4 two links are shorter than one", 59, () -> town.way(1, 2));
        town.link(0, 1, 1);
        Due.is("4 a link of one", 1, () -> town.way(0, 1));
        town.link(0, 3, 5);
        Due.is("4 by the place 0", 6, () -> town.way(1, 3));
        town.link(0, 3, 0);
        town.link(1, 4, 0);
        Due.is("4 taken away", 99, () -> town.way(0, 4));
        Due.is("4 no place", Due.BOUNDS, () -> town.way(5, 0));
        Due.is("4 no other", Due.BOUNDS, () -> town.way(0, 5));
        Due.is("4 below", Due.BOUNDS, () -> town.way(-1, 0));
        Due.is("4 other below", Due.BOUNDS, () -> town.way(0, -1));
    }

    private static void setGroup() {
        Madeham town = Towns.ofOnePlace(2);
        Due.is("5 told", 2, () -> town.setGroup(0, 20));
        Due.is("5 told anew", 20, () -> town.setGroup(0, 0));
        Due.is("5 other group", 0, () -> town.setGroup(2, 1));
        Due.is("5 too many", Due.ARGUMENT, () -> town.setGroup(2, 21));
        Due.is("5 too few", Due.ARGUMENT, () -> town.setGroup(2, -1));
        Due.is("5 no group", Due.ARGUMENT, () -> town.setGroup(3, 1));
        Due.is("5 no group below", Due.ARGUMENT, () -> town.setGroup(-1, 1));
        Due.is("5 unchanged", 1, () -> town.setGroup(2, 1));
        Due.is("5 people stay", 2, () -> town.cell(0, 0));
        town.pass(1);
        Due.is("5 a day went by", 1, () -> town.setGroup(2, 4));
        town.reset();
        Due.is("5 not reset", 4, () -> town.setGroup(2, 4));
    }

    private static void setHomes() {
        Madeham town = Towns.ofOnePlace(2);
        town.addPlace();
        Due.is("6 told", 2, () -> town.setHomes(0, 20));
        Due.is("6 told anew", 20, () -> town.setHomes(0, 0));
        Due.is("6 other place", 0, () -> town.setHomes(1, 3));
        Due.is("6 too many", Due.ARGUMENT, () -> town.setHomes(1, 21));
        Due.is("6 too few", Due.ARGUMENT, () -> town.setHomes(1, -1));
        Due.is("6 no place", Due.BOUNDS, () -> town.setHomes(2, 1));
        Due.is("6 place first", Due.BOUNDS, () -> town.setHomes(-1, 21));
        town.pass(1);
        Due.is("6 a day went by", 3, () -> town.setHomes(1, 4));
    }

    private static void make() {
        Madeham none = new Madeham();
        Due.is("7 sums of 0", Due.UNSUPPORTED, none::make);
        Madeham town = new Madeham();
        town.addPlace();
        town.addPlace();
        town.addPlace();
        town.setGroup(0, 3);
        town.setGroup(1, 3);
        town.setGroup(2, 1);
        town.setHomes(0, 2);
        town.setHomes(1, 2);
        town.setHomes(2, 2);
        Due.is("7 unlike sums", Due.UNSUPPORTED, town::make);
        Due.is("7 nobody", Due.BOUNDS, () -> town.home(0));
        town.setHomes(2, 3);
        // at first 0 0 1 / 0 0 1 / 0 0 0; then the group 0 takes 2 at the place 0, the group 1 takes 2 at the
        // place 1, and the group 2 takes what is left
        Due.is("7 many", 7, town::make);
        Due.same("7 cells", "2 0 1 0 2 1 0 0 1", cells(town));
        Due.same("7 homes", "0 0 2 1 1 2 2", homes(town, 7));
        for (int person = 0; person < 7; person++) {
            for (int trait = 0; trait < 4; trait++) {
                Due.same("7 first trait", town.draw(person, 0, 100 + trait), town.trait(person, trait));
            }
        }
        Madeham full = Towns.ofOnePlace(20);
        Due.is("7 twenty", 20, full::make);
        full.setGroup(1, 1);
        full.addPlace();
        full.setHomes(1, 1);
        Due.is("7 twenty-one", Due.UNSUPPORTED, full::make);
        Due.is("7 twenty stay", 0, () -> full.home(19));
        full.pass(1);
        full.setGroup(1, 0);
        full.setHomes(1, 0);
        Due.is("7 a day went by", Due.UNSUPPORTED, full::make);
    }

    private static void makeAgain() {
        Madeham town = Towns.ofOnePlace(3);
        town.addPlace();
        town.setWork(1, 1);
        town.tie(0, 1, true);
        town.setTrait(1, 2, 77);
        town.addRule('a', 0, 0, 0, 1, 100);
        town.tell(1, 5, false);
        town.setSeed(12);
        town.setGroup(0, 2);
        town.setHomes(0, 2);
        Due.is("7 again", 2, town::make);
        Due.is("7 earlier ones are gone", Due.BOUNDS, () -> town.home(2));
        Due.is("7 works are gone", 0, () -> town.setWork(1, 0));
        Due.is("7 ties are gone", false, () -> town.tie(1, 0, false));
        Due.is("7 traits are gone", town.draw(1, 0, 102), () -> town.trait(1, 2));
        long m = (31L * 12 + 7919 + 1299709L * 102) * 48271 % 2147483647;
        Due.is("7 the seed of now", (int) (m % 100), () -> town.trait(1, 2));
        Due.is("7 rules stay", 1, () -> town.setAmount(0, 1));
        Due.is("7 figures stay", 2, () -> town.tell(2, 5, false));
    }

    private static String cells(Madeham town) {
        StringBuilder text = new StringBuilder();
        for (int group = 0; group < 3; group++) {
            for (int place = 0; place < 3; place++) {
                text.append(group + place == 0 ? "" : " ").append(town.cell(group, place));
            }
        }
        return text.toString();
    }

    private static String homes(Madeham town, int people) {
        StringBuilder text = new StringBuilder();
        for (int person = 0; person < people; person++) {
            text.append(person == 0 ? "" : " ").append(town.home(person));
        }
        return text.toString();
    }

    private static void cell() {
        Madeham town = new Madeham();
        town.addPlace();
        town.setGroup(1, 4);
        town.setHomes(0, 4);
        Due.is("8 ahead of make", 0, () -> town.cell(1, 0));
        town.make();
        Due.is("8 behind make", 4, () -> town.cell(1, 0));
        Due.is("8 other group", 0, () -> town.cell(0, 0));
        Due.is("8 no group", Due.ARGUMENT, () -> town.cell(3, 0));
        Due.is("8 group first", Due.ARGUMENT, () -> town.cell(-1, 5));
        Due.is("8 no place", Due.BOUNDS, () -> town.cell(1, 1));
        Due.is("8 below", Due.BOUNDS, () -> town.cell(1, -1));
    }

    private static void home() {
        Madeham town = new Madeham();
        town.addPlace();
        town.addPlace();
        town.setGroup(0, 2);
        town.setHomes(0, 1);
        town.setHomes(1, 1);
        town.make();
        Due.is("9 first", 0, () -> town.home(0));
        Due.is("9 second", 1, () -> town.home(1));
        Due.is("9 nobody", Due.BOUNDS, () -> town.home(2));
        Due.is("9 below", Due.BOUNDS, () -> town.home(-1));
    }

    private static void groupOf() {
        Madeham town = new Madeham();
        town.addPlace();
        town.setGroup(0, 1);
        town.setGroup(2, 1);
        town.setHomes(0, 2);
        town.make();
        Due.is("10 first", 0, () -> town.groupOf(0));
        Due.is("10 second", 2, () -> town.groupOf(1));
        Due.is("10 nobody", Due.BOUNDS, () -> town.groupOf(2));
        Due.is("10 below", Due.BOUNDS, () -> town.groupOf(-1));
    }

    private static void setWork() {
        Madeham town = Towns.ofOnePlace(2);
        town.addPlace();
        Due.is("11 at first", 0, () -> town.setWork(1, 1));
        Due.is("11 before", 1, () -> town.setWork(1, 1));
        Due.is("11 other person", 0, () -> town.setWork(0, 0));
        Due.is("11 nobody", Due.BOUNDS, () -> town.setWork(2, 0));
        Due.is("11 no place", Due.BOUNDS, () -> town.setWork(0, 2));
        Due.is("11 below", Due.BOUNDS, () -> town.setWork(-1, 0));
        Due.is("11 place below", Due.BOUNDS, () -> town.setWork(0, -1));
        town.pass(1);
        Due.is("11 a day went by", Due.UNSUPPORTED, () -> town.setWork(1, 0));
        Due.is("11 bounds first", Due.BOUNDS, () -> town.setWork(1, 2));
        town.reset();
        Due.is("11 unchanged", 1, () -> town.setWork(1, 0));
    }

    private static void tie() {
        Madeham town = Towns.ofOnePlace(20);
        Due.is("12 at first", false, () -> town.tie(0, 19, true));
        Due.is("12 both ways", true, () -> town.tie(19, 0, true));
        Due.is("12 taken away", true, () -> town.tie(19, 0, false));
        Due.is("12 gone both ways", false, () -> town.tie(0, 19, false));
        Due.is("12 gone for the first one", false, () -> town.tie(19, 0, false));
        Due.is("12 nobody", Due.BOUNDS, () -> town.tie(20, 0, true));
        Due.is("12 no other", Due.BOUNDS, () -> town.tie(0, 20, true));
        Due.is("12 below", Due.BOUNDS, () -> town.tie(-1, -1, true));
        Due.is("12 alike", Due.ARGUMENT, () -> town.tie(3, 3, true));
        town.pass(1);
        Due.is("12 a day went by", Due.UNSUPPORTED, () -> town.tie(1, 2, true));
        Due.is("12 alike ahead of the day", Due.ARGUMENT, () -> town.tie(3, 3, true));
        Due.is("12 bounds ahead of the day", Due.BOUNDS, () -> town.tie(3, 20, true));
        town.reset();
        Due.is("12 unchanged", false, () -> town.tie(2, 1, false));
    }

    private static void setTrait() {
        Madeham town = Towns.ofOnePlace(2);
        int first = town.draw(1, 0, 103);
        Due.is("13 the draw", first, () -> town.setTrait(1, 3, 99));
        Due.is("13 before", 99, () -> town.setTrait(1, 3, 0));
        Due.is("13 now", 0, () -> town.trait(1, 3));
        Due.is("13 nobody", Due.BOUNDS, () -> town.setTrait(2, 0, 0));
        Due.is("13 person first", Due.BOUNDS, () -> town.setTrait(-1, 4, 100));
        Due.is("13 no trait", Due.ARGUMENT, () -> town.setTrait(0, 4, 0));
        Due.is("13 trait below", Due.ARGUMENT, () -> town.setTrait(0, -1, 0));
        Due.is("13 too much", Due.ARGUMENT, () -> town.setTrait(0, 0, 100));
        Due.is("13 too little", Due.ARGUMENT, () -> town.setTrait(0, 0, -1));
        town.pass(1);
        Due.is("13 a day went by", Due.UNSUPPORTED, () -> town.setTrait(0, 0, 0));
        Due.is("13 argument ahead of the day", Due.ARGUMENT, () -> town.setTrait(0, 0, 100));
        Due.is("13 person ahead of the day", Due.BOUNDS, () -> town.setTrait(2, 0, 0));
        town.reset();
        Due.is("13 stays behind reset", 0, () -> town.trait(1, 3));
    }
}
