/** The sentences of "Terms" on runs in thought and on exceptions. */
final class TermsOfThought {
    private static final Edges.Town EMPTY = Towns::empty;
    private static final Edges.Town ORDINARY = Towns::ordinary;
    private static final Edges.Town PASSED = Towns::passed;
    private static final Edges.Town FULL = Towns::full;
    private static final Edges.Town ENDED = Towns::ended;

    private TermsOfThought() {
    }

    /** One person, whose trait 0 begins at 80; each of three rules makes it 9 more, and a fourth one, which is off, 5. */
    private static Madeham nines() {
        Madeham town = Towns.with(80);
        for (int rule = 0; rule < 4; rule++) {
            town.addRule('a', 0, 0, 0, rule == 3 ? 5 : 9, 100);
        }
        town.setOn(3, false);
        return town;
    }

    private static Madeham behind(Madeham town, int days) {
        for (int left = days; left > 0; left -= 30) {
            town.pass(Math.min(30, left));
        }
        return town;
    }

    private static long thinkOfAll(Madeham town) {
        town.effect(7, 1, 30, 0);
        town.halfEffect(56, 8, 30, 3);
        town.error(5, -9, true);
        town.error(0, 9, false);
        town.fit(0);
        town.cause(0, 0);
        town.causeFor(2, 19, 3);
        town.least(1, 1, 0);
        Due.answerOf(() -> town.differs(0));
        Due.answerOf(() -> town.least(1, 1, 9900));
        town.isSound();
        return town.checksum() ^ town.hash();
    }

    static void runs() {
        Edges.says("Runs in thought go from the first day on, by all that is told now, rules that are off staying off, but"
                + " what is said otherwise; they change nothing.");
        Edges.answers("they change nothing behind all days", Towns.ended().checksum() ^ Towns.ended().hash(), ENDED,
                TermsOfThought::thinkOfAll);
        Edges.answers("nor on the day 0", Towns.full().checksum() ^ Towns.full().hash(), FULL, TermsOfThought::thinkOfAll);
        Edges.answers("the days go on as if there were none", behind(Towns.full(), 31).checksum(), () -> {
            Madeham town = behind(Towns.full(), 30);
            thinkOfAll(town);
            town.pass(1);
            return town;
        }, Madeham::checksum);
        Edges.answers("from the first day on", 9, () -> behind(nines(), 60), town -> {
            town.reset();
            town.setOn(1, false);
            town.setOn(2, false);
            town.pass(30);
            return town.effect(1, 1, 1, 0);
        });
        Edges.answers("a rule that is off stays off as another's effect is told", 98 - 89, TermsOfThought::nines, town -> {
            town.setOn(1, false);
            return town.effect(4, 4, 1, 0);
        });
        Edges.answers("it stays off as an error is told", 0L, TermsOfThought::nines, town -> {
            town.tell(1, 9900, false);
            return town.error(3, -9, false);
        });
        Edges.answers("as one fits", -9, TermsOfThought::nines, town -> {
            town.tell(1, 9900, false);
            return town.fit(3);
        });
        Edges.answers("as the least is told", -9, () -> behind(nines(), 1), town -> town.least(3, 0, 9900));
        Edges.answers("as a cause is told", 0, () -> behind(nines(), 1), town -> town.cause(3, 0));
        Edges.answers("by what is told now", 5, TermsOfThought::nines, town -> {
            town.setTrait(0, 0, 10);
            town.setAmount(0, 5);
            return town.effect(1, 1, 1, 0);
        });
    }

    static void designs() {
        Edges.says("A design has factors, 1 to 3 rules, as bits.");
        Edges.answers("the bit of the last rule", 5, TermsOfThought::nines, town -> {
            town.setTrait(0, 0, 10);
            return town.effect(8, 8, 1, 0);
        });
        Edges.refused("none", Due.ARGUMENT, FULL, town -> town.effect(0, 0, 1, 0));
        Edges.refused("four", Due.ARGUMENT, FULL, town -> town.effect(15, 15, 1, 0));
        Edges.says("Its runs are all in which each factor is on or not, the other rules as they are.");
        // 80 with none of the three on, 89 with one, 98 with two, 99, as held, with all
        Edges.answers("a factor that is off is turned on", 85 - 80, TermsOfThought::nines, town -> {
            for (int rule = 0; rule < 3; rule++) {
                town.setOn(rule, false);
            }
            return town.effect(8, 8, 1, 0);
        });
        Edges.answers("two runs", 99 - 98, TermsOfThought::nines, town -> town.effect(1, 1, 1, 0));
        Edges.answers("four runs, the third rule on", 99 + 98 - 98 - 89, TermsOfThought::nines,
                town -> town.effect(3, 1, 1, 0));
        Edges.says("The effect of some factors is the sum over runs of the sum of a trait over all people behind so many days,"
                + " with a sign that is minus if an odd number of these factors is off.");
        Edges.answers("of one of three", 99 + 2 * 98 + 89 - 98 - 2 * 89 - 80, TermsOfThought::nines,
                town -> town.effect(7, 1, 1, 0));
        Edges.answers("of two of three", 99 - 2 * 98 + 89 + 98 - 2 * 89 + 80, TermsOfThought::nines,
                town -> town.effect(7, 3, 1, 0));
        Edges.answers("of all three", 99 - 3 * 98 + 3 * 89 - 80, TermsOfThought::nines, town -> town.effect(7, 7, 1, 0));
        Edges.answers("behind two days", 99 + 2 * 99 + 98 - 99 - 2 * 98 - 80, TermsOfThought::nines,
                town -> town.effect(7, 4, 2, 0));
        Edges.says("Half a design are the runs in which an even number of all its factors is off.");
        Edges.answers("one of three: none off, or two", 99 - 89 - 89 + 89, TermsOfThought::nines,
                town -> town.halfEffect(7, 1, 1, 0));
        Edges.answers("two of three: the same", 99 - 89 - 89 + 89, TermsOfThought::nines,
                town -> town.halfEffect(7, 6, 1, 0));
        Edges.answers("all three: four runs", 99 + 3 * 89, TermsOfThought::nines, town -> town.halfEffect(7, 7, 1, 0));
        Edges.answers("two factors: two runs", 99 - 89, TermsOfThought::nines, town -> town.halfEffect(3, 1, 1, 0));
        Edges.answers("one factor: one run", 99, TermsOfThought::nines, town -> town.halfEffect(1, 1, 1, 0));
    }

    static void figures() {
        Edges.says("At most 10 figures are told as seen: a day, 1 to 60, a mean of the trait 0, 0 to 9900, and whether it is"
                + " for testing.");
        Edges.answers("ten", "1 2 3 4 5 6 7 8 9 10", EMPTY, town -> {
            StringBuilder text = new StringBuilder();
            for (int figure = 0; figure < 10; figure++) {
                text.append(figure == 0 ? "" : " ").append(town.tell(60, 9900, figure % 2 == 0));
            }
            return text.toString();
        });
        Edges.refused("the eleventh", Due.STATE, FULL, town -> town.tell(1, 0, false));
        Edges.range("day", Due.ARGUMENT, EMPTY, 1, 60, (town, day) -> town.tell(day, 0, false));
        Edges.range("mean", Due.ARGUMENT, EMPTY, 0, 9900, (town, mean) -> town.tell(1, mean, false));
        Edges.says("The error of an amount of a rule is the sum, over those for testing, or over the others, of the squares of"
                + " the mean on that day, by a run with this amount, less what was seen.");
        // by 1 a day and with 50 at first: 5100 on the day 1, 7900 on the day 29, 9900 on the day 60
        Edges.answers("over those for testing", 9900L * 9900 + 100 * 100, TermsOfThought::seen,
                town -> town.error(0, 1, true));
        Edges.answers("over the others", 5100L * 5100 + 2000 * 2000, TermsOfThought::seen,
                town -> town.error(0, 1, false));
        Edges.answers("of the trait 0 alone", 0L, () -> {
            Madeham town = Towns.with(50);
            town.addRule('a', 1, 0, 0, 0, 100);
            town.tell(1, 5000, false);
            return town;
        }, town -> town.error(0, 9, false));
        Edges.answers("of a mean that is cut", 1L, () -> {
            Madeham town = Towns.with(0, 0, 1);
            town.addRule('a', 1, 0, 0, 0, 100);
            town.tell(1, 34, false);
            return town;
        }, town -> town.error(0, 9, false));
        Edges.says("The amount that fits is the one with the least error over those that are not for testing, of like ones the"
                + " lowest.");
        Edges.answers("the one", 2, () -> seeing(5200), town -> town.fit(0));
        Edges.answers("of two like ones the lowest", 2, () -> seeing(5250), town -> town.fit(0));
        Edges.answers("of many like ones the lowest", 5, () -> {
            Madeham town = Towns.with(94);
            town.addRule('a', 0, 0, 0, 0, 100);
            town.tell(1, 9900, false);
            return town;
        }, town -> town.fit(0));
    }

    private static Madeham seeing(int mean) {
        Madeham town = Towns.with(50);
        town.addRule('a', 0, 0, 0, 0, 100);
        town.tell(1, mean, false);
        return town;
    }

    private static Madeham seen() {
        Madeham town = seeing(0);
        town.tell(60, 0, true);
        town.tell(29, 9900, false);
        town.tell(1, 5000, true);
        return town;
    }

    static void causes() {
        Edges.says("A cause is the figure of now less that of a run of as many days without the rule, or in which the rule acts"
                + " on all but one person.");
        Edges.answers("no day", 0, TermsOfThought::nines, town -> town.cause(0, 0));
        Edges.answers("one day", 9900 - 9800, () -> behind(nines(), 1), town -> town.cause(0, 0));
        Edges.answers("all days", 0, () -> behind(nines(), 60), town -> town.cause(0, 0));
        Edges.answers("for one", 99 - 98, () -> behind(nines(), 1), town -> town.causeFor(0, 0, 0));
        // now: 12 12, 14 14; not on the person 0: 10 12, 11 14; not on the person 1: 12 11, 14 12; on neither: 10 10
        Edges.answers("the rule goes on acting on all others", "3 2 400", () -> {
            Madeham town = Towns.with(10, 10);
            town.tie(0, 1, true);
            town.addRule('a', 0, 0, 0, 3, 100);
            town.addRule('i', 0, 0, 0, 1, 100);
            return behind(town, 2);
        }, town -> town.causeFor(0, 0, 0) + " " + town.causeFor(0, 1, 0) + " " + town.cause(0, 0));
    }

    /** A call of each method that can refuse one, with what it is to throw in the town behind three days. */
    private static void refusedBehindDays() {
        Edges.refused("addPlace", Due.UNSUPPORTED, PASSED, Madeham::addPlace);
        Edges.refused("link", Due.BOUNDS, PASSED, town -> town.link(0, 3, 61));
        Edges.refused("way", Due.BOUNDS, PASSED, town -> town.way(0, 3));
        Edges.refused("setGroup", Due.ARGUMENT, PASSED, town -> town.setGroup(0, 21));
        Edges.refused("setHomes", Due.BOUNDS, PASSED, town -> town.setHomes(3, 21));
        Edges.refused("make", Due.UNSUPPORTED, PASSED, Madeham::make);
        Edges.refused("cell", Due.ARGUMENT, PASSED, town -> town.cell(3, 3));
        Edges.refused("home", Due.BOUNDS, PASSED, town -> town.home(5));
        Edges.refused("groupOf", Due.BOUNDS, PASSED, town -> town.groupOf(5));
        Edges.refused("setWork", Due.BOUNDS, PASSED, town -> town.setWork(4, 3));
        Edges.refused("tie", Due.BOUNDS, PASSED, town -> town.tie(5, 5, true));
        Edges.refused("setTrait", Due.BOUNDS, PASSED, town -> town.setTrait(5, 4, 100));
        Edges.refused("addRule", Due.ARGUMENT, PASSED, town -> town.addRule('b', 0, 0, 0, 0, 0));
        Edges.refused("setOn", Due.BOUNDS, PASSED, town -> town.setOn(4, false));
        Edges.refused("setAmount", Due.BOUNDS, PASSED, town -> town.setAmount(4, 10));
        Edges.refused("setMode", Due.ARGUMENT, PASSED, town -> town.setMode('i'));
        Edges.refused("setSeed", Due.ARGUMENT, PASSED, town -> town.setSeed(0));
        Edges.refused("draw", Due.ARGUMENT, PASSED, town -> town.draw(20, 0, 0));
        Edges.refused("pass", Due.ARGUMENT, PASSED, town -> town.pass(31));
        Edges.refused("trait", Due.BOUNDS, PASSED, town -> town.trait(5, 4));
        Edges.refused("mean", Due.ARGUMENT, PASSED, town -> town.mean(4));
    }

    private static void refusedInThought() {
        Edges.refused("groupMean", Due.ARGUMENT, PASSED, town -> town.groupMean(3, 0));
        Edges.refused("survey", Due.NO_SUCH, PASSED, town -> town.survey(0, 1, 100));
        Edges.refused("effect", Due.BOUNDS, PASSED, town -> town.effect(16, 0, 31, 4));
        Edges.refused("halfEffect", Due.BOUNDS, PASSED, town -> town.halfEffect(16, 0, 31, 4));
        Edges.refused("tell", Due.ARGUMENT, PASSED, town -> town.tell(61, 0, false));
        Edges.refused("error", Due.BOUNDS, PASSED, town -> town.error(4, 10, false));
        Edges.refused("fit", Due.BOUNDS, PASSED, town -> town.fit(4));
        Edges.refused("cause", Due.BOUNDS, PASSED, town -> town.cause(4, 4));
        Edges.refused("causeFor", Due.BOUNDS, PASSED, town -> town.causeFor(0, 5, 4));
        Edges.refused("differs", Due.NO_SUCH, PASSED, town -> town.differs(3));
        Edges.refused("least", Due.NO_SUCH, PASSED, town -> town.least(3, 0, 9900));
        Edges.refused("shareBits", Due.ARGUMENT, PASSED, town -> town.shareBits(4));
        Edges.refused("meanWay", Due.ARITHMETIC, EMPTY, Madeham::meanWay);
    }

    static void exceptions() {
        Edges.says("A method that throws an exception changes nothing.");
        refusedBehindDays();
        refusedInThought();
        Edges.says("If several exceptions apply, the one that is documented first is thrown.");
        Edges.refused("no place, the same, 61, a day", Due.BOUNDS, PASSED, town -> town.link(3, 3, 61));
        Edges.refused("the same, a day", Due.ARGUMENT, PASSED, town -> town.link(2, 2, 5));
        Edges.refused("no group, no place", Due.ARGUMENT, PASSED, town -> town.cell(3, 3));
        Edges.refused("no kind, a day, six", Due.ARGUMENT, ENDED, town -> town.addRule('b', 0, 0, 0, 0, 0));
        Edges.refused("a day, six", Due.UNSUPPORTED, ENDED, town -> town.addRule('a', 0, 0, 0, 0, 0));
        Edges.refused("a day, five", Due.UNSUPPORTED, ENDED, Madeham::addPlace);
        Edges.refused("31, nobody", Due.ARGUMENT, EMPTY, town -> town.pass(31));
        Edges.refused("no day 0, ten", Due.ARGUMENT, FULL, town -> town.tell(0, 0, false));
        Edges.refused("no rule, nobody, nothing told", Due.BOUNDS, EMPTY, town -> town.fit(0));
        Edges.refused("no rule, 10, nobody", Due.BOUNDS, EMPTY, town -> town.error(0, 10, false));
        Edges.refused("no rule, no person, no trait", Due.BOUNDS, ORDINARY, town -> town.causeFor(4, 5, 4));
        Edges.refused("no trait, nobody", Due.ARGUMENT, EMPTY, town -> town.shareBits(4));
    }
}
