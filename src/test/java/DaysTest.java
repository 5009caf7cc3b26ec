/** Promises 20 to 26. */
public final class DaysTest {
    public static void main(String[] args) {
        pass();
        reset();
        today();
        trait();
        mean();
        groupMean();
        survey();
        surveyRefusals();
        Due.end();
    }

    private static void pass() {
        Madeham none = new Madeham();
        Due.is("20 no people", Due.UNSUPPORTED, () -> none.pass(1));
        Due.is("20 argument first", Due.ARGUMENT, () -> none.pass(0));
        Madeham town = Towns.with(0);
        town.addRule('a', 0, 0, 0, 1, 100);
        Due.is("20 one", 1, () -> town.pass(1));
        Due.is("20 in all", 30, () -> town.pass(29));
        Due.is("20 too many", Due.ARGUMENT, () -> town.pass(31));
        Due.is("20 too few", Due.ARGUMENT, () -> town.pass(-1));
        Due.is("20 sixty-one", 59, () -> town.pass(29));
        Due.is("20 more than sixty", Due.STATE, () -> town.pass(2));
        Due.is("20 nothing changed", 59, town::today);
        Due.is("20 a trait a day", 59, () -> town.trait(0, 0));
        Due.is("20 sixty", 60, () -> town.pass(1));
        Due.is("20 full", Due.STATE, () -> town.pass(1));
        Due.is("20 argument ahead of full", Due.ARGUMENT, () -> town.pass(31));
        Madeham steps = drawing();
        Madeham whole = drawing();
        steps.pass(3);
        steps.pass(4);
        whole.pass(7);
        Due.same("20 days of a run are alike in parts", whole.checksum(), steps.checksum());
        int changes = 0;
        Madeham counted = drawing();
        for (int day = 1; day <= 7; day++) {
            changes += counted.draw(2, day, 0) < 50 ? 1 : 0;
        }
        Due.same("20 the first day is the day 1", Math.min(99, counted.trait(2, 0) + changes), whole.trait(2, 0));
    }

    private static Madeham drawing() {
        Madeham town = Towns.ofOnePlace(3);
        town.addRule('a', 0, 0, 0, 1, 50);
        return town;
    }

    private static void reset() {
        Madeham town = Towns.with(10, 20);
        town.addRule('a', 0, 0, 0, 1, 100);
        Due.is("21 no day", 0, town::reset);
        town.pass(5);
        town.tell(5, 100, false);
        Due.is("21 five", 5, town::reset);
        Due.is("21 today", 0, town::today);
        Due.same("21 traits", "10 20", Towns.values(town, 2));
        Due.is("21 figures stay", 2, () -> town.tell(6, 100, false));
        Due.is("21 tellable again", 10, () -> town.setTrait(0, 0, 30));
        town.pass(1);
        Due.same("21 from the new beginning", "31 21", Towns.values(town, 2));
        town.reset();
        Due.same("21 to the new beginning", "30 20", Towns.values(town, 2));
    }

    private static void today() {
        Madeham town = Towns.ofOnePlace(1);
        Due.is("22 at first", 0, town::today);
        town.pass(30);
        Due.is("22 thirty", 30, town::today);
        town.reset();
        Due.is("22 reset", 0, town::today);
    }

    private static void trait() {
        Madeham town = Towns.with(3, 4);
        town.setTrait(1, 3, 99);
        Due.is("23 first", 3, () -> town.trait(0, 0));
        Due.is("23 last", 99, () -> town.trait(1, 3));
        Due.is("23 nobody", Due.BOUNDS, () -> town.trait(2, 0));
        Due.is("23 person first", Due.BOUNDS, () -> town.trait(-1, 4));
        Due.is("23 no trait", Due.ARGUMENT, () -> town.trait(0, 4));
        Due.is("23 trait below", Due.ARGUMENT, () -> town.trait(0, -1));
    }

    private static void mean() {
        Madeham town = Towns.with(1, 1, 3);
        Due.is("24 cut", 166, () -> town.mean(0));
        Due.is("24 no trait", Due.ARGUMENT, () -> town.mean(4));
        Due.is("24 trait below", Due.ARGUMENT, () -> town.mean(-1));
        Madeham none = new Madeham();
        Due.is("24 no people", Due.UNSUPPORTED, () -> none.mean(3));
        Due.is("24 trait first", Due.ARGUMENT, () -> none.mean(4));
        Madeham most = Towns.with(99);
        Due.is("24 most", 9900, () -> most.mean(0));
    }

    private static void groupMean() {
        Madeham town = new Madeham();
        town.addPlace();
        town.setGroup(0, 2);
        town.setGroup(2, 3);
        town.setHomes(0, 5);
        town.make();
        int[] values = {10, 11, 20, 20, 21};
        for (int person = 0; person < 5; person++) {
            town.setTrait(person, 2, values[person]);
        }
        Due.is("25 first group", 1050, () -> town.groupMean(0, 2));
        Due.is("25 last group, cut", 2033, () -> town.groupMean(2, 2));
        Due.is("25 nobody", Due.NO_SUCH, () -> town.groupMean(1, 2));
        Due.is("25 no group", Due.ARGUMENT, () -> town.groupMean(3, 2));
        Due.is("25 group below", Due.ARGUMENT, () -> town.groupMean(-1, 2));
        Due.is("25 no trait", Due.ARGUMENT, () -> town.groupMean(1, 4));
        Due.is("25 trait below", Due.ARGUMENT, () -> town.groupMean(1, -1));
        town.setGroup(1, 4);
        Due.is("25 told, but not made", Due.NO_SUCH, () -> town.groupMean(1, 2));
    }

    private static void survey() {
        Madeham town = Towns.with(10, 20, 30, 41, 50);
        Due.is("26 all", 3020, () -> town.survey(0, 1, 0));
        Due.is("26 each second", 3000, () -> town.survey(0, 2, 0));
        Due.is("26 each third", 2550, () -> town.survey(0, 3, 0));
        Due.is("26 the first only", 1000, () -> town.survey(0, 9, 0));
        Due.is("26 all refuse", Due.NO_SUCH, () -> town.survey(0, 1, 100));
        Due.is("26 no trait", Due.ARGUMENT, () -> town.survey(4, 1, 0));
        Due.is("26 trait below", Due.ARGUMENT, () -> town.survey(-1, 1, 0));
        Due.is("26 each 0", Due.ARGUMENT, () -> town.survey(0, 0, 0));
        Due.is("26 each 10", Due.ARGUMENT, () -> town.survey(0, 10, 0));
        Due.is("26 refusal below", Due.ARGUMENT, () -> town.survey(0, 1, -1));
        Due.is("26 argument first", Due.ARGUMENT, () -> town.survey(0, 1, 101));
        Due.is("26 no people", Due.NO_SUCH, () -> new Madeham().survey(0, 1, 0));
    }

    private static void surveyRefusals() {
        Madeham town = Towns.with(17);
        town.pass(4);
        int drawn = town.draw(0, 4, 150);
        Due.is("26 the draw is the refusal", 1700, () -> town.survey(0, 1, drawn));
        Due.is("26 the draw is below the refusal", Due.NO_SUCH, () -> town.survey(0, 1, drawn + 1));
    }
}
