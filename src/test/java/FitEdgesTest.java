/** The boundary cases of the promises 29 to 31: what was seen, errors, and the amount that fits. */
public final class FitEdgesTest {
    private static final Edges.Town EMPTY = Towns::empty;
    private static final Edges.Town UNPEOPLED = Towns::unpeopled;
    private static final Edges.Town ORDINARY = Towns::ordinary;
    private static final Edges.Town PASSED = Towns::passed;
    private static final Edges.Town FULL = Towns::full;
    private static final Edges.Town ENDED = Towns::ended;

    public static void main(String[] args) throws Exception {
        tell();
        tellRefuses();
        error();
        errorOfAll();
        errorRefuses();
        fit();
        fitRefuses();
        Due.end();
    }

    private static void tell() throws Exception {
        Edges.promise(29);
        Edges.says("Tells what was seen.");
        Edges.answers("for the error", 100L * 100, FitEdgesTest::one, town -> {
            town.tell(1, 5000, false);
            return town.error(0, -1, false);
        });
        Edges.says("- `day`: 1 to 60");
        Edges.range("day", Due.ARGUMENT, ORDINARY, 1, 60, (town, day) -> town.tell(day, 5, false));
        Edges.says("- `mean`: 0 to 9900");
        Edges.range("mean", Due.ARGUMENT, ORDINARY, 0, 9900, (town, mean) -> town.tell(1, mean, true));
        Edges.says("- `isTest`: whether it is for testing");
        Edges.answers("for testing", 5000L * 5000, FitEdgesTest::one, town -> {
            town.tell(1, 0, true);
            return town.error(0, 0, true);
        });
        Edges.answers("not for testing", 0L, FitEdgesTest::one, town -> {
            town.tell(1, 0, false);
            return town.error(0, 0, true);
        });
        Edges.says("Returns how many are told.");
        Edges.answers("the first", 1, EMPTY, town -> town.tell(60, 9900, true));
        Edges.answers("the third", 3, ORDINARY, town -> town.tell(60, 9900, true));
        Edges.answers("the tenth", 10, () -> withFigures(9), town -> town.tell(60, 9900, false));
        Edges.answers("alike", 2, EMPTY, town -> {
            town.tell(1, 0, false);
            return town.tell(1, 0, false);
        });
        Edges.answers("behind days", 3, PASSED, town -> town.tell(1, 0, false));
    }

    /** One person, whose trait 0 begins at 50, and one rule, which does nothing as it is told. */
    private static Madeham one() {
        Madeham town = Towns.with(50);
        town.addRule('a', 0, 0, 0, 0, 100);
        return town;
    }

    private static Madeham withFigures(int many) {
        Madeham town = one();
        for (int figure = 0; figure < many; figure++) {
            town.tell(1 + figure, 5000, figure % 2 == 0);
        }
        return town;
    }

    private static void tellRefuses() throws Exception {
        Edges.says("Throws `IllegalArgumentException` if a number is out of range");
        Edges.refused("both", Due.ARGUMENT, EMPTY, town -> town.tell(0, -1, false));
        Edges.refused("both above", Due.ARGUMENT, ENDED, town -> town.tell(61, 9901, true));
        Edges.says("Throws `IllegalStateException` if there are 10");
        Edges.refused("ten", Due.STATE, FULL, town -> town.tell(1, 0, false));
        Edges.refused("ten, for testing", Due.STATE, () -> withFigures(10), town -> town.tell(60, 9900, true));
        Edges.refused("ten, behind days", Due.STATE, ENDED, town -> town.tell(1, 0, false));
        Edges.refused("the day ahead of ten", Due.ARGUMENT, FULL, town -> town.tell(0, 0, false));
        Edges.refused("a day above ahead of ten", Due.ARGUMENT, FULL, town -> town.tell(61, 0, false));
        Edges.refused("the mean ahead of ten", Due.ARGUMENT, FULL, town -> town.tell(1, 9901, false));
        Edges.refused("a mean below ahead of ten", Due.ARGUMENT, FULL, town -> town.tell(1, -1, false));
        Edges.allSaid();
    }

    private static void error() throws Exception {
        Edges.promise(30);
        Edges.says("Returns the error of an amount.");
        Edges.answers("of 2", 200L * 200, FitEdgesTest::withOne, town -> town.error(0, 2, false));
        Edges.says("- `rule`: the rule");
        Edges.answers("the first", 100L * 100, FitEdgesTest::withOne, town -> town.error(0, 1, false));
        Edges.answers("the last", 200L * 200, () -> {
            Madeham town = withOne();
            for (int rule = 1; rule < 6; rule++) {
                town.addRule('a', 0, 0, 0, 0, 100);
            }
            return town;
        }, town -> town.error(5, -2, false));
        Edges.says("- `amount`: -9 to 9");
        Edges.range("amount", Due.ARGUMENT, FULL, -9, 9, (town, amount) -> town.error(5, amount, false));
        Edges.answers("the least", 900L * 900, FitEdgesTest::withOne, town -> town.error(0, -9, false));
        Edges.answers("the most", 900L * 900, FitEdgesTest::withOne, town -> town.error(0, 9, false));
        Edges.says("- `isTest`: whether over those for testing");
        Edges.answers("over those", 4900L * 4900, FitEdgesTest::withOne, town -> town.error(0, 0, true));
        Edges.answers("over the others", 0L, FitEdgesTest::withOne, town -> town.error(0, 0, false));
    }

    /** 50 is seen on the day 1, and, for testing, 99 on the day 60. */
    private static Madeham withOne() {
        Madeham town = one();
        town.tell(1, 5000, false);
        town.tell(60, 9900, true);
        return town;
    }

    private static void errorOfAll() throws Exception {
        Edges.says("Returns the sum.");
        Edges.answers("none told", 0L, FitEdgesTest::one, town -> town.error(0, 9, false));
        Edges.answers("none of those for testing", 0L, () -> {
            Madeham town = one();
            town.tell(1, 0, false);
            return town;
        }, town -> town.error(0, 9, true));
        Edges.answers("the most there is", 10L * 9900 * 9900, () -> {
            Madeham town = Towns.with(99);
            town.addRule('a', 0, 0, 0, 9, 100);
            for (int figure = 0; figure < 10; figure++) {
                town.tell(60, 0, true);
            }
            return town;
        }, town -> town.error(0, 9, true));
        Edges.answers("on each day the mean of that day", 5L * 5 * 10000 + 20L * 20 * 10000, () -> {
            Madeham town = one();
            town.tell(20, 5000, false);
            town.tell(5, 5000, false);
            return town;
        }, town -> town.error(0, 1, false));
        Edges.answers("twice the same day", 2L * 300 * 300, () -> {
            Madeham town = one();
            town.tell(3, 5000, false);
            town.tell(3, 5000, false);
            return town;
        }, town -> town.error(0, -1, false));
        Edges.answers("behind all days", 4900L * 4900, () -> {
            Madeham town = withOne();
            town.pass(30);
            town.pass(30);
            return town;
        }, town -> town.error(0, 0, true));
    }

    private static void errorRefuses() throws Exception {
        Edges.says("Throws `IndexOutOfBoundsException` if there is no such rule");
        Edges.refused("of none", Due.BOUNDS, EMPTY, town -> town.error(0, 0, false));
        Edges.beyond("of four", Due.BOUNDS, ORDINARY, 0, 3, (town, rule) -> town.error(rule, 0, false));
        Edges.beyond("of six", Due.BOUNDS, ENDED, 0, 5, (town, rule) -> town.error(rule, 0, true));
        Edges.says("Throws `IllegalArgumentException` if a number is out of range");
        Edges.refused("10", Due.ARGUMENT, ENDED, town -> town.error(5, 10, false));
        Edges.refused("-10", Due.ARGUMENT, ENDED, town -> town.error(5, -10, true));
        Edges.says("Throws `UnsupportedOperationException` if there are no people");
        Edges.refused("the first rule", Due.UNSUPPORTED, UNPEOPLED, town -> town.error(0, 0, false));
        Edges.refused("the last rule", Due.UNSUPPORTED, UNPEOPLED, town -> town.error(1, 9, true));
        Edges.refused("no rule ahead of the amount", Due.BOUNDS, ORDINARY, town -> town.error(4, 10, false));
        Edges.refused("no rule ahead of no people", Due.BOUNDS, UNPEOPLED, town -> town.error(2, 0, false));
        Edges.refused("no rule ahead of all", Due.BOUNDS, EMPTY, town -> town.error(-1, -10, false));
        Edges.refused("the amount ahead of no people", Due.ARGUMENT, UNPEOPLED, town -> town.error(1, 10, false));
        Edges.refused("an amount below ahead of no people", Due.ARGUMENT, UNPEOPLED, town -> town.error(1, -10, false));
        Edges.allSaid();
    }

    /** One person, whose trait 0 begins at 50, one rule, and what is seen on the first day. */
    private static Madeham seeing(int... means) {
        Madeham town = one();
        for (int mean : means) {
            town.tell(1, mean, false);
        }
        return town;
    }

    private static void fit() throws Exception {
        Edges.promise(31);
        Edges.says("Returns the amount that fits.");
        Edges.answers("as seen", 4, () -> seeing(5400), town -> town.fit(0));
        Edges.says("- `rule`: the rule");
        Edges.answers("the last", 6, () -> {
            Madeham town = seeing(5600);
            for (int rule = 1; rule < 6; rule++) {
                town.addRule('a', 0, 0, 0, 0, 100);
            }
            return town;
        }, town -> town.fit(5));
        Edges.says("Returns the amount.");
        Edges.answers("the least", -9, () -> seeing(4100), town -> town.fit(0));
        Edges.answers("the one above the least", -8, () -> seeing(4200), town -> town.fit(0));
        Edges.answers("the one below the most", 8, () -> seeing(5800), town -> town.fit(0));
        Edges.answers("what would be less", -9, () -> seeing(0), town -> town.fit(0));
        Edges.answers("the most", 9, () -> seeing(5900), town -> town.fit(0));
        Edges.answers("what would be more", 9, () -> seeing(9900), town -> town.fit(0));
        Edges.answers("none", 0, () -> seeing(5000), town -> town.fit(0));
        Edges.answers("of two like ones the lower", 3, () -> seeing(5350), town -> town.fit(0));
        Edges.answers("a little nearer to the higher", 4, () -> seeing(5351), town -> town.fit(0));
        Edges.answers("of two like ones below 0 the lower", -4, () -> seeing(4600, 4700), town -> town.fit(0));
        Edges.answers("of all like ones the least", -9, () -> {
            Madeham town = seeing(5400);
            town.setOn(0, false);
            return town;
        }, town -> town.fit(0));
        Edges.answers("what is for testing does not count", 1, () -> {
            Madeham town = seeing(5100);
            town.tell(1, 5900, true);
            return town;
        }, town -> town.fit(0));
    }

    private static void fitRefuses() throws Exception {
        Edges.says("Throws `IndexOutOfBoundsException` if there is no such rule");
        Edges.refused("of none", Due.BOUNDS, EMPTY, town -> town.fit(0));
        Edges.beyond("of four", Due.BOUNDS, ORDINARY, 0, 3, Madeham::fit);
        Edges.beyond("of six", Due.BOUNDS, ENDED, 0, 5, Madeham::fit);
        Edges.says("Throws `UnsupportedOperationException` if there are no people");
        Edges.refused("only rules and figures", Due.UNSUPPORTED, UNPEOPLED, town -> town.fit(0));
        Edges.refused("the last rule", Due.UNSUPPORTED, UNPEOPLED, town -> town.fit(1));
        Edges.says("Throws `NoSuchElementException` if nothing is told that is not for testing");
        Edges.refused("nothing", Due.NO_SUCH, FitEdgesTest::one, town -> town.fit(0));
        Edges.refused("ten for testing", Due.NO_SUCH, FitEdgesTest::withTenForTesting, town -> town.fit(0));
        Edges.answers("one that is not, behind nine", -9, FitEdgesTest::withOneBehindNine, town -> town.fit(0));
        Edges.refused("no rule ahead of no people", Due.BOUNDS, UNPEOPLED, town -> town.fit(2));
        Edges.refused("no rule ahead of nothing told", Due.BOUNDS, FitEdgesTest::one, town -> town.fit(1));
        Edges.refused("no people ahead of nothing told", Due.UNSUPPORTED, () -> {
            Madeham town = new Madeham();
            town.addRule('a', 0, 0, 0, 0, 100);
            return town;
        }, town -> town.fit(0));
        Edges.allSaid();
    }

    private static Madeham withTenForTesting() {
        Madeham town = one();
        for (int figure = 0; figure < 10; figure++) {
            town.tell(1, 5000, true);
        }
        return town;
    }

    private static Madeham withOneBehindNine() {
        Madeham town = one();
        for (int figure = 0; figure < 9; figure++) {
            town.tell(1, 5900, true);
        }
        town.tell(1, 4100, false);
        return town;
    }
}
