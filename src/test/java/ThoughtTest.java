/** Promises 27 to 36. */
public final class ThoughtTest {
    public static void main(String[] args) {
        effect();
        effectRefuses();
        halfEffect();
        tell();
        error();
        errorRefuses();
        fit();
        cause();
        causeFor();
        differs();
        least();
        hash();
        hashOfHomes();
        changesNothing();
        Due.end();
    }

    /** One person, whose trait 0 begins at 40: 5 more a day, 2 less a day, and 9 more a day from 50 on. */
    private static Madeham factorTown() {
        Madeham town = Towns.with(40);
        town.addRule('a', 0, 0, 0, 5, 100);
        town.addRule('a', 0, 0, 0, -2, 100);
        town.addRule('a', 0, 0, 50, 9, 100);
        return town;
    }

    private static void effect() {
        Madeham town = factorTown();
        // behind two days, by the rules 0 and 1 (2 is on): 45, 50+9=59 without 1; 43, 46 with both; 38, 36; 40, 40
        Due.is("27 effect of 0", 46 + 59 - 36 - 40, () -> town.effect(3, 1, 2, 0));
        Due.is("27 effect of 1", 46 - 59 + 36 - 40, () -> town.effect(3, 2, 2, 0));
        Due.is("27 of both", 46 - 59 - 36 + 40, () -> town.effect(3, 3, 2, 0));
        town.setOn(0, false);
        town.setOn(2, false);
        Due.is("27 a factor that is off, another that stays off", 46 + 50 - 36 - 40, () -> town.effect(3, 1, 2, 0));
        Due.is("27 one factor", 46 - 36, () -> town.effect(1, 1, 2, 0));
        town.setOn(2, true);
        int threeFactors = 46 + 46 - 59 - 50 + 36 + 36 - 40 - 40;
        Due.is("27 three factors", threeFactors, () -> town.effect(7, 2, 2, 0));
        town.pass(9);
        Due.is("27 goes from the first day on", threeFactors, () -> town.effect(7, 2, 2, 0));
        Madeham sums = Towns.with(1, 2);
        sums.addRule('a', 1, 0, 0, 0, 0);
        sums.addRule('a', 0, 0, 0, 3, 100);
        Due.is("27 the sum over all people", 6, () -> sums.effect(2, 2, 1, 0));
        Due.is("27 thirty days", 180, () -> sums.effect(2, 2, 30, 0));
    }

    private static void effectRefuses() {
        Madeham town = factorTown();
        town.addRule('a', 0, 0, 0, 0, 0);
        refusals("27", (factors, some, days, trait) -> town.effect(factors, some, days, trait));
        refusals("28", (factors, some, days, trait) -> town.halfEffect(factors, some, days, trait));
        Madeham none = new Madeham();
        none.addRule('a', 0, 0, 0, 0, 0);
        Due.is("27 no people", Due.UNSUPPORTED, () -> none.effect(1, 1, 1, 0));
        Due.is("28 no people", Due.UNSUPPORTED, () -> none.halfEffect(1, 1, 1, 0));
        Due.is("27 argument ahead of people", Due.ARGUMENT, () -> none.effect(1, 1, 31, 0));
        Due.is("28 argument ahead of people", Due.ARGUMENT, () -> none.halfEffect(1, 1, 1, 4));
    }

    private interface Design {
        int effect(int factors, int some, int days, int trait);
    }

    /** There are the rules 0 to 3. */
    private static void refusals(String promise, Design town) {
        Due.is(promise + " no rule", Due.BOUNDS, () -> town.effect(16, 16, 1, 0));
        Due.is(promise + " no rule among rules", Due.BOUNDS, () -> town.effect(17, 1, 0, 9));
        Due.is(promise + " no rule in some", Due.BOUNDS, () -> town.effect(1, 16, 1, 0));
        Due.is(promise + " below", Due.BOUNDS, () -> town.effect(-1, 1, 1, 0));
        Due.is(promise + " no factors", Due.ARGUMENT, () -> town.effect(0, 1, 1, 0));
        Due.is(promise + " four factors", Due.ARGUMENT, () -> town.effect(15, 1, 1, 0));
        Due.is(promise + " none of some", Due.ARGUMENT, () -> town.effect(7, 0, 1, 0));
        Due.is(promise + " some are no factors", Due.ARGUMENT, () -> town.effect(3, 6, 1, 0));
        Due.is(promise + " no days", Due.ARGUMENT, () -> town.effect(1, 1, 0, 0));
        Due.is(promise + " too many days", Due.ARGUMENT, () -> town.effect(1, 1, 31, 0));
        Due.is(promise + " no trait", Due.ARGUMENT, () -> town.effect(1, 1, 1, 4));
        Due.is(promise + " trait below", Due.ARGUMENT, () -> town.effect(1, 1, 1, -1));
    }

    private static void halfEffect() {
        Madeham town = factorTown();
        // of 46 with both, 59 without 1, 36 without 0 and 40 without both the first and the last are run
        Due.is("28 effect of 0", 46 - 40, () -> town.halfEffect(3, 1, 2, 0));
        Due.is("28 effect of 1, the same run twice", 46 - 40, () -> town.halfEffect(3, 2, 2, 0));
        Due.is("28 of both", 46 + 40, () -> town.halfEffect(3, 3, 2, 0));
        Due.is("28 one factor", 46, () -> town.halfEffect(1, 1, 2, 0));
        // an even number of three is off: none, 0 and 1, 0 and 2, or 1 and 2
        Due.is("28 three factors", 46 + 50 - 36 - 40, () -> town.halfEffect(7, 1, 2, 0));
    }

    private static void tell() {
        Madeham town = new Madeham();
        Due.is("29 first", 1, () -> town.tell(1, 0, false));
        Due.is("29 second", 2, () -> town.tell(60, 9900, true));
        Due.is("29 day 0", Due.ARGUMENT, () -> town.tell(0, 0, false));
        Due.is("29 day 61", Due.ARGUMENT, () -> town.tell(61, 0, false));
        Due.is("29 mean below", Due.ARGUMENT, () -> town.tell(1, -1, false));
        Due.is("29 mean above", Due.ARGUMENT, () -> town.tell(1, 9901, false));
        for (int figure = 3; figure <= 10; figure++) {
            Due.is("29 more", figure, () -> town.tell(1, 0, false));
        }
        Due.is("29 full", Due.STATE, () -> town.tell(1, 0, true));
        Due.is("29 argument ahead of full", Due.ARGUMENT, () -> town.tell(0, 0, true));
        Madeham passed = Towns.ofOnePlace(1);
        passed.pass(3);
        Due.is("29 a day went by", 1, () -> passed.tell(2, 5, false));
    }

    private static void error() {
        Madeham town = Towns.with(10, 11);
        town.addRule('a', 0, 0, 0, 1, 100);
        Due.is("30 nothing told", 0L, () -> town.error(0, 1, false));
        town.tell(1, 1250, false);
        town.tell(3, 1300, false);
        town.tell(2, 0, true);
        town.tell(3, 1300, false);
        // by 1 a day: 1150, 1250, 1350; by 2 a day: 1250, 1450, 1650
        Due.is("30 not for testing", 10000L + 2500 + 2500, () -> town.error(0, 1, false));
        Due.is("30 another amount", 2L * 350 * 350, () -> town.error(0, 2, false));
        Due.is("30 for testing", 1250L * 1250, () -> town.error(0, 1, true));
        town.pass(20);
        Due.is("30 behind days", 1250L * 1250, () -> town.error(0, 1, true));
        town.reset();
        town.setOn(0, false);
        Due.is("30 a rule that is off stays off", 1050L * 1050, () -> town.error(0, 9, true));
        Madeham late = Towns.with(0);
        late.addRule('a', 0, 0, 0, 1, 100);
        late.tell(60, 0, false);
        Due.is("30 the day 60", 6000L * 6000, () -> late.error(0, 1, false));
    }

    private static void errorRefuses() {
        Madeham town = Towns.with(10, 11);
        town.addRule('a', 0, 0, 0, 1, 100);
        Due.is("30 no rule", Due.BOUNDS, () -> town.error(1, 10, true));
        Due.is("30 below", Due.BOUNDS, () -> town.error(-1, 0, true));
        Due.is("30 amount above", Due.ARGUMENT, () -> town.error(0, 10, true));
        Due.is("30 amount below", Due.ARGUMENT, () -> town.error(0, -10, true));
        Madeham none = new Madeham();
        none.addRule('a', 0, 0, 0, 1, 100);
        Due.is("30 no people", Due.UNSUPPORTED, () -> none.error(0, 0, true));
        Due.is("30 argument first", Due.ARGUMENT, () -> none.error(0, 10, true));
    }

    private static void fit() {
        Madeham town = Towns.with(50);
        town.addRule('a', 0, 0, 0, 1, 100);
        town.tell(1, 9900, true);
        Due.is("31 nothing told", Due.NO_SUCH, () -> town.fit(0));
        town.tell(4, 3800, false);
        Due.is("31 three less a day", -3, () -> town.fit(0));
        town.tell(4, 4200, false);
        Due.is("31 of like ones the lowest", -3, () -> town.fit(0));
        Due.is("31 changes nothing", 1, () -> town.setAmount(0, 1));
        Due.is("31 no rule", Due.BOUNDS, () -> town.fit(1));
        Due.is("31 below", Due.BOUNDS, () -> town.fit(-1));
        Madeham none = new Madeham();
        none.addRule('a', 0, 0, 0, 1, 100);
        Due.is("31 people ahead of figures", Due.UNSUPPORTED, () -> none.fit(0));
        Due.is("31 rule first", Due.BOUNDS, () -> none.fit(1));
        Madeham low = Towns.with(99);
        low.addRule('a', 0, 0, 0, 1, 100);
        low.tell(2, 8300, false);
        Due.is("31 the second of all", -8, () -> low.fit(0));
        Madeham most = Towns.with(0);
        most.addRule('a', 0, 0, 0, 1, 100);
        most.tell(2, 9900, false);
        Due.is("31 the greatest", 9, () -> most.fit(0));
        most.setOn(0, false);
        Due.is("31 all alike", -9, () -> most.fit(0));
    }

    private static void cause() {
        Madeham town = factorTown();
        Due.is("32 no day", 0, () -> town.cause(0, 0));
        town.pass(2);
        Due.is("32 of 0", 4600 - 3600, () -> town.cause(0, 0));
        Due.is("32 of 1", 4600 - 5900, () -> town.cause(1, 0));
        Due.is("32 other trait", 0, () -> town.cause(0, 1));
        Due.is("32 no rule", Due.BOUNDS, () -> town.cause(3, 9));
        Due.is("32 below", Due.BOUNDS, () -> town.cause(-1, 0));
        Due.is("32 no trait", Due.ARGUMENT, () -> town.cause(0, 4));
        Due.is("32 trait below", Due.ARGUMENT, () -> town.cause(0, -1));
        town.reset();
        town.setOn(0, false);
        town.pass(2);
        Due.is("32 a rule that is off", 0, () -> town.cause(0, 0));
        Madeham none = new Madeham();
        none.addRule('a', 0, 0, 0, 1, 100);
        Due.is("32 no people", Due.UNSUPPORTED, () -> none.cause(0, 0));
        Due.is("32 argument first", Due.ARGUMENT, () -> none.cause(0, 4));
        Madeham cut = Towns.with(1, 1, 3);
        cut.addRule('a', 0, 0, 3, 2, 100);
        cut.pass(1);
        Due.is("32 both means are cut", 233 - 166, () -> cut.cause(0, 0));
    }

    private static void causeFor() {
        Madeham town = Towns.with(10, 30);
        town.addRule('a', 0, 0, 0, 5, 100);
        town.addRule('i', 0, 0, 0, 2, 100);
        town.tie(0, 1, true);
        town.pass(1);
        // 10+5=15, by 2 to 30: 17; 30+5=35, by 2 to 17: 33; without 0 on the person 1: 28
        Due.is("33 on 0", 5, () -> town.causeFor(0, 0, 0));
        Due.is("33 on 1", 5, () -> town.causeFor(0, 1, 0));
        Due.is("33 of the other rule", -2, () -> town.causeFor(1, 1, 0));
        Due.is("33 other trait", 0, () -> town.causeFor(1, 1, 3));
        Due.is("33 no rule", Due.BOUNDS, () -> town.causeFor(2, 0, 9));
        Due.is("33 nobody", Due.BOUNDS, () -> town.causeFor(0, 2, 9));
        Due.is("33 rule below", Due.BOUNDS, () -> town.causeFor(-1, 0, 0));
        Due.is("33 person below", Due.BOUNDS, () -> town.causeFor(0, -1, 0));
        Due.is("33 no trait", Due.ARGUMENT, () -> town.causeFor(0, 0, 4));
        Due.is("33 trait below", Due.ARGUMENT, () -> town.causeFor(0, 0, -1));
        Madeham pair = Towns.with(0, 50);
        pair.addRule('i', 0, 0, 0, 9, 100);
        pair.tie(0, 1, true);
        pair.pass(2);
        // both: 9 41, 18 32; without 0: 0 41, 0 32; the rule goes on acting on the person 1
        Due.is("33 the rule acts on others", 18, () -> pair.causeFor(0, 0, 0));
        // without 1: 9 50, 18 50
        Due.is("33 for the other one", 32 - 50, () -> pair.causeFor(0, 1, 0));
    }

    private static void differs() {
        Madeham town = Towns.with(10, 45, 10);
        town.addRule('a', 0, 0, 0, 2, 100);
        town.addRule('a', 3, 0, 50, 1, 100);
        town.setTrait(1, 3, 0);
        Due.is("34 no day", Due.NO_SUCH, () -> town.differs(0));
        town.pass(2);
        Due.is("34 not yet", Due.NO_SUCH, () -> town.differs(1));
        town.pass(28);
        Due.is("34 the first day", 100, () -> town.differs(0));
        // 45 is 51 on the day 3
        town.reset();
        town.pass(3);
        Due.is("34 on the last day", 301, () -> town.differs(1));
        town.pass(27);
        Due.is("34 the third day, in the last trait", 301, () -> town.differs(1));
        Due.is("34 no rule", Due.BOUNDS, () -> town.differs(2));
        Due.is("34 below", Due.BOUNDS, () -> town.differs(-1));
        Madeham none = new Madeham();
        none.addRule('a', 0, 0, 0, 1, 100);
        Due.is("34 no people", Due.UNSUPPORTED, () -> none.differs(0));
        Due.is("34 rule first", Due.BOUNDS, () -> none.differs(1));
        Madeham once = Towns.with(99);
        once.addRule('a', 0, 0, 0, -1, 100);
        once.addRule('a', 0, 0, 99, 0, 100);
        once.pass(3);
        Due.is("34 no difference", Due.NO_SUCH, () -> once.differs(1));
    }

    private static void least() {
        Madeham town = Towns.with(50);
        town.addRule('a', 0, 0, 0, 1, 100);
        Due.is("35 no day", -9, () -> town.least(0, 0, 5000));
        Due.is("35 no day, too high", Due.NO_SUCH, () -> town.least(0, 0, 5001));
        town.pass(3);
        Due.is("35 like the goal", 2, () -> town.least(0, 0, 5600));
        Due.is("35 more than the goal", 3, () -> town.least(0, 0, 5601));
        Due.is("35 the greatest", 9, () -> town.least(0, 0, 7700));
        Due.is("35 none", Due.NO_SUCH, () -> town.least(0, 0, 7701));
        Due.is("35 the least", -9, () -> town.least(0, 0, 0));
        Due.is("35 changes nothing", 53, () -> town.trait(0, 0));
        Due.is("35 no rule", Due.BOUNDS, () -> town.least(1, 0, -1));
        Due.is("35 below", Due.BOUNDS, () -> town.least(-1, 0, 0));
        Due.is("35 no trait", Due.ARGUMENT, () -> town.least(0, 4, 0));
        Due.is("35 trait below", Due.ARGUMENT, () -> town.least(0, -1, 0));
        Due.is("35 goal below", Due.ARGUMENT, () -> town.least(0, 0, -1));
        Due.is("35 goal above", Due.ARGUMENT, () -> town.least(0, 0, 9901));
        Madeham none = new Madeham();
        none.addRule('a', 0, 0, 0, 1, 100);
        Due.is("35 no people", Due.UNSUPPORTED, () -> none.least(0, 0, 0));
        Due.is("35 argument first", Due.ARGUMENT, () -> none.least(0, 0, 9901));
    }

    private static void hash() {
        Madeham none = new Madeham();
        Due.is("36 new", (7L * 31 + 't') * 31 + 1, none::hash);
        Madeham town = Towns.with(1, 2);
        town.addPlace();
        town.addPlace();
        town.link(0, 2, 9);
        town.setWork(1, 2);
        town.tie(0, 1, true);
        town.addRule('i', 3, 2, 98, -7, 55);
        town.setOn(0, false);
        town.setMode('a');
        town.setSeed(77);
        for (int trait = 1; trait < 4; trait++) {
            town.setTrait(0, trait, 10 + trait);
            town.setTrait(1, trait, 20 + trait);
        }
        int[] parts = {0, 9, 0, 0, 0, 1, 11, 12, 13, 2, 0, 2, 2, 21, 22, 23, 1, 'i', 3, 2, 98, -7, 55, 0, 'a', 77};
        long want = folded(parts);
        Due.is("36 a town", want, town::hash);
        town.tell(1, 1, true);
        town.setGroup(2, 5);
        Due.is("36 figures and margins do not count", want, town::hash);
        parts[23] = 1;
        town.setOn(0, true);
        Due.is("36 on", folded(parts), town::hash);
        town.setMode('t');
        parts[24] = 't';
        town.setAmount(0, 9);
        parts[21] = 9;
        town.pass(5);
        Due.is("36 traits as the first day began", folded(parts), town::hash);
    }

    private static void hashOfHomes() {
        Madeham town = new Madeham();
        town.addPlace();
        town.addPlace();
        town.setGroup(1, 1);
        town.setHomes(1, 1);
        town.make();
        town.setWork(0, 1);
        int[] parts = {0, 1, 1, town.trait(0, 0), town.trait(0, 1), town.trait(0, 2), town.trait(0, 3), 0, 't', 1};
        Due.is("36 a home", folded(parts), town::hash);
    }

    private static long folded(int[] parts) {
        long sum = 7;
        for (int part : parts) {
            sum = 31 * sum + part;
        }
        return sum;
    }

    private static void changesNothing() {
        Madeham town = factorTown();
        town.tell(5, 4000, false);
        town.pass(6);
        long checksum = town.checksum();
        long hash = town.hash();
        town.effect(7, 3, 9, 0);
        town.halfEffect(7, 3, 9, 0);
        town.error(0, 9, false);
        town.fit(1);
        town.cause(2, 0);
        town.causeFor(2, 0, 0);
        town.differs(1);
        town.least(0, 0, 3000);
        Due.is("27-35 traits and days stay", checksum, town::checksum);
        Due.is("27-35 what is told stays", hash, town::hash);
        Due.is("27-35 sound", true, town::isSound);
        town.pass(3);
        Madeham other = factorTown();
        other.pass(9);
        Due.is("27-35 the run of now stays", other.checksum(), town::checksum);
    }
}
