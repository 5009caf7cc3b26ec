import java.util.Arrays;

/** The sentences of "Terms" on rules, days and means. */
final class TermsOfRules {
    private static final Edges.Town EMPTY = Towns::empty;
    private static final Edges.Town ORDINARY = Towns::ordinary;
    private static final Edges.Town PASSED = Towns::passed;
    private static final Edges.Town FULL = Towns::full;
    private static final Edges.Town ENDED = Towns::ended;

    private TermsOfRules() {
    }

    static void overview() {
        Edges.says("People are made from margins; rules change their traits, at once or in turn; a draw belongs to a person,"
                + " a day and a rule, so that to undo one rule disturbs no other draw; few runs tell what rules do, and what"
                + " they mix up; a number is fitted to what was seen, and tested on other days; a cause is what is gone as a"
                + " rule is undone, for all or for one; and two runs are followed to the first person and day at which they"
                + " differ.");
        // the rule 1 acts on half the days; that the rule 0, which acts on another trait, is off changes nothing of that
        int others = withHalf(true).trait(0, 1);
        Edges.same("some days, not all", true, others > 0 && others < 30);
        Edges.answers("an undone rule disturbs no other draw", others, () -> withHalf(false), town -> town.trait(0, 1));
        Edges.answers("nor does it in a run in thought", 0, () -> withHalf(true), town -> town.cause(0, 1));
    }

    private static Madeham withHalf(boolean isFirstOn) {
        Madeham town = Towns.with(0);
        town.setTrait(0, 1, 0);
        town.addRule('a', 0, 0, 0, 1, 50);
        town.addRule('a', 1, 1, 0, 1, 50);
        town.setOn(0, isFirstOn);
        town.pass(30);
        return town;
    }

    static void rules() {
        Edges.says("At most 6 are numbered from 0; each is on at first, and is of a kind, for a trait, with a guard, a limit"
                + " of 0 to 99, an amount of -9 to 9, and a chance of 0 to 100.");
        Edges.answers("all six, in order", "0 1 2 3 4 5", EMPTY, town -> {
            StringBuilder text = new StringBuilder();
            for (int rule = 0; rule < 6; rule++) {
                text.append(rule == 0 ? "" : " ").append(town.addRule('t', 3, 3, 99, -9, 100));
            }
            return text.toString();
        });
        Edges.refused("the seventh", Due.STATE, FULL, town -> town.addRule('a', 0, 0, 0, 0, 0));
        for (int rule = 0; rule < 6; rule++) {
            int which = rule;
            Edges.answers("on at first", true, FULL, town -> town.setOn(which, true));
            Edges.answers("each of six acts", 1 + which, () -> withSix(which), town -> town.trait(0, 0));
        }
        Edges.answers("all of six act", 21, () -> withSix(6), town -> town.trait(0, 0));
    }

    /** One person behind a day, by six rules, of which this one is on, or all if there is no such rule. */
    private static Madeham withSix(int only) {
        Madeham town = Towns.with(0);
        for (int rule = 0; rule < 6; rule++) {
            town.addRule('a', 0, 0, 0, 1 + rule, 100);
            town.setOn(rule, rule == only || only == 6);
        }
        town.pass(1);
        return town;
    }

    /** The trait 0 of one person behind a day, by a rule that adds 7 to it. */
    private static int sevenMore(int value, char kind, int guard, int guarded, int limit, int chance) {
        Madeham town = Towns.with(value);
        town.setTrait(0, guard, guarded);
        town.addRule(kind, 0, guard, limit, 7, chance);
        town.pass(1);
        return town.trait(0, 0);
    }

    static void acts() {
        Edges.says("It acts on a person on a day if it is on, the person's trait of the guard is not below the limit, and the"
                + " draw of that person and day for the rule as a purpose is below the chance.");
        Edges.same("the guard is the limit", 17, sevenMore(10, 'a', 1, 40, 40, 100));
        Edges.same("the guard is one below", 10, sevenMore(10, 'a', 1, 39, 40, 100));
        Edges.same("the guard is one above", 17, sevenMore(10, 'a', 1, 41, 40, 100));
        Edges.same("a limit of 0 and a guard of 0", 17, sevenMore(10, 'a', 3, 0, 0, 100));
        Edges.same("a limit of 99 and a guard of 99", 17, sevenMore(10, 'a', 3, 99, 99, 100));
        Edges.same("a limit of 99 and a guard of 98", 10, sevenMore(10, 'a', 3, 98, 99, 100));
        Edges.same("the guard is the trait itself", 37, sevenMore(30, 'a', 0, 30, 30, 100));
        Edges.same("a chance of 0", 10, sevenMore(10, 'a', 1, 40, 40, 0));
        int drawn = new Madeham().draw(0, 1, 0);
        Edges.same("the draw is the chance", 10, sevenMore(10, 'a', 1, 40, 40, drawn));
        Edges.same("the draw is one below", 17, sevenMore(10, 'a', 1, 40, 40, drawn + 1));
        Edges.answers("it is off", 10, () -> Towns.with(10), town -> {
            town.addRule('a', 0, 0, 0, 7, 100);
            town.setOn(0, false);
            town.pass(30);
            return town.trait(0, 0);
        });
        chances(new Madeham());
    }

    /** For each person, day and rule the draw is another one: at the ends of all three. */
    private static void chances(Madeham other) {
        for (int person : new int[] {0, 19}) {
            for (int day : new int[] {1, 60}) {
                for (int rule : new int[] {0, 5}) {
                    int drawn = other.draw(person, day, rule);
                    Edges.same("the draw is one below", 1, lastStep(person, day, rule, drawn + 1));
                    Edges.same("the draw is the chance", 0, lastStep(person, day, rule, drawn));
                }
            }
        }
    }

    /** By how much the rule changes the trait 1 of a person on that day, by 1 if it acts. */
    private static int lastStep(int person, int day, int rule, int chance) {
        Madeham town = Towns.with(new int[20]);
        for (int other = 0; other < 20; other++) {
            town.setTrait(other, 1, 0);
        }
        for (int number = 0; number < 6; number++) {
            town.addRule('a', 1, 1, 0, number == rule ? 1 : 0, chance);
        }
        int before = 0;
        for (int left = day; left > 0; left--) {
            before = town.trait(person, 1);
            town.pass(1);
        }
        return town.trait(person, 1) - before;
    }

    static void adds() {
        Edges.says("By 'a' the trait becomes the amount more.");
        int[][] cases = {{9, 50, 59}, {-9, 50, 41}, {0, 50, 50}, {1, 98, 99}, {1, 99, 99}, {-1, 1, 0}, {-1, 0, 0}, {9, 99, 99}};
        for (int[] of : cases) {
            Edges.answers(of[1] + " by " + of[0], of[2], () -> Towns.with(of[1]), town -> {
                town.addRule('a', 0, 0, 0, of[0], 100);
                town.pass(1);
                return town.trait(0, 0);
            });
        }
    }

    /** The person 0 has ties to all others, and a rule 'i' acts on that one alone. */
    private static void influenced(String what, int want, int amount, int... values) {
        Edges.answers(what, want, () -> Towns.with(values), town -> {
            for (int other = 1; other < values.length; other++) {
                town.tie(0, other, true);
                town.setTrait(other, 1, 0);
            }
            town.setTrait(0, 1, 1);
            town.addRule('i', 0, 1, 1, amount, 100);
            town.pass(1);
            return town.trait(0, 0);
        });
    }

    static void influences() {
        Edges.says("By 'i' it goes toward the mean of that trait over those with whom the person has ties, cut, by the amount"
                + " without sign, but not beyond, away from it as far if the amount is below 0; nothing happens without ties,"
                + " or if it is at the mean.");
        influenced("up", 14, 4, 10, 30);
        influenced("down", 26, 4, 30, 10);
        influenced("up to the mean", 14, 4, 10, 14);
        influenced("up, not beyond", 13, 4, 10, 13);
        influenced("down to the mean", 10, 9, 19, 10);
        influenced("down, not beyond", 10, 9, 18, 10);
        influenced("by 0", 18, 0, 18, 10);
        influenced("the mean is cut", 13, 9, 10, 13, 14);
        influenced("the cut mean of three", 13, 9, 10, 13, 13, 15);
        influenced("at the cut mean", 13, 9, 13, 13, 14);
        influenced("away, up", 34, -4, 30, 10);
        influenced("away, down", 6, -4, 10, 30);
        influenced("away, held below", 0, -9, 8, 30);
        influenced("away, held above", 99, -9, 91, 30);
        influenced("away from 1 farther", 39, -9, 30, 29);
        influenced("away at the mean", 30, -9, 30, 30);
        influenced("toward at the mean", 30, 9, 30, 30);
        influenced("no ties", 30, 9, 30);
        influenced("no ties, away", 30, -9, 30);
        influenced("a mean of 0", 0, 9, 5, 0, 1);
        influenced("a mean of 99", 99, 9, 95, 99, 99);
        Edges.answers("who has no ties does not count", 14, () -> Towns.with(10, 14, 99), town -> {
            town.tie(0, 1, true);
            town.addRule('i', 0, 0, 0, 9, 100);
            town.pass(1);
            return town.trait(0, 0);
        });
        int[] many = new int[20];
        Arrays.fill(many, 60);
        many[0] = 55;
        many[19] = 59;
        influenced("nineteen ties", 59, 9, many);
    }

    static void travels() {
        Edges.says("By 't' it becomes the amount more if the way from where the person lives to where the person works is more"
                + " than the limit; the guard is not looked at.");
        int[][] cases = {{20, 19, 57}, {20, 20, 50}, {20, 21, 50}, {60, 59, 57}, {60, 60, 50}, {1, 0, 57}, {0, 99, 57}};
        for (int[] of : cases) {
            Edges.answers("a link of " + of[0] + " and a limit of " + of[1], of[2], () -> Towns.with(50), town -> {
                town.addPlace();
                town.link(0, 1, of[0]);
                town.setWork(0, 1);
                town.setTrait(0, 1, 0);
                town.addRule('t', 0, 1, of[1], 7, 100);
                town.pass(1);
                return town.trait(0, 0);
            });
        }
        Edges.same("at home, a limit of 0, a guard of 99", 50, sevenMore(50, 't', 1, 99, 0, 100));
        Edges.answers("from home to work by two links", "50 57", () -> Towns.with(50, 50), town -> {
            town.addPlace();
            town.addPlace();
            town.link(0, 1, 20);
            town.link(1, 2, 20);
            town.setWork(0, 1);
            town.setWork(1, 2);
            town.addRule('t', 0, 1, 39, 7, 100);
            town.pass(1);
            return Towns.values(town, 2);
        });
        Edges.answers("held above, and by its chance", "99 99", () -> Towns.with(98, 99), town -> {
            town.addPlace();
            town.setWork(0, 1);
            town.setWork(1, 1);
            town.addRule('t', 0, 1, 99, 9, 100);
            town.addRule('t', 0, 1, 99, -9, 0);
            town.pass(1);
            return Towns.values(town, 2);
        });
    }

    static void days() {
        Edges.says("They are counted from 0; the first day that goes by is the day 1.");
        Edges.answers("0 at first", 0, ORDINARY, Madeham::today);
        Edges.answers("1 then", 1, ORDINARY, town -> town.pass(1));
        int first = new Madeham().draw(0, 1, 0);
        Edges.same("the draws of the day 0 and of the day 1 are not alike", true, first != new Madeham().draw(0, 0, 0));
        Edges.same("the first day has the draw of the day 1", 17, sevenMore(10, 'a', 0, 10, 0, first + 1));
        Edges.same("and of no other", 10, sevenMore(10, 'a', 0, 10, 0, first));
        Edges.says("On a day all rules act on all people, by persons, and for each by rules.");
        Edges.answers("for a person by rules", "98 10", () -> Towns.with(95, 2), town -> {
            town.addRule('a', 0, 0, 0, 9, 100);
            town.addRule('a', 0, 0, 0, -1, 100);
            town.pass(1);
            return Towns.values(town, 2);
        });
        // 10+3=13 to 14; 14+3=17 toward 14 by 9: 14; by rules it would be 13 and 17, and then 17 and 17
        Edges.answers("by persons, and not by rules", "14 14", () -> pair('t', 10, 14, 3, 9), TermsOfRules::both);
        // 10+9=19 to 21; 21+9=30 toward 21 by 5: 25; from the last person on it would be 24 and 25
        Edges.answers("the person 0 first", "21 25", () -> pair('t', 10, 21, 9, 5), TermsOfRules::both);
        Edges.says("At most 60 days go by.");
        Edges.answers("60", 60, FULL, town -> {
            town.pass(30);
            return town.pass(30);
        });
        Edges.refused("61", Due.STATE, ENDED, town -> town.pass(1));
    }

    /** Two with a tie, behind a day by a rule 'a' and then a rule 'i'. */
    private static Madeham pair(char mode, int first, int second, int more, int toward) {
        Madeham town = Towns.with(first, second);
        town.setMode(mode);
        town.tie(0, 1, true);
        town.addRule('a', 0, 0, 0, more, 100);
        town.addRule('i', 0, 0, 0, toward, 100);
        town.pass(1);
        return town;
    }

    /** The trait 3 of the last two of twenty, who have a tie, behind a day by a rule 'a' and then a rule 'i'. */
    private static String lastPair(char mode) {
        Madeham town = Towns.with(new int[20]);
        town.setMode(mode);
        town.setTrait(18, 3, 10);
        town.setTrait(19, 3, 14);
        town.tie(19, 18, true);
        town.addRule('a', 3, 0, 0, 3, 100);
        town.addRule('i', 3, 2, 0, 9, 100);
        town.pass(1);
        return town.trait(18, 3) + " " + town.trait(19, 3);
    }

    private static String both(Madeham town) {
        return Towns.values(town, 2);
    }

    /** The trait 0 of one person behind a day, by a rule and by one of 7 more from this limit on. */
    private static int guarded(char mode, int value, int more, int limit) {
        Madeham town = Towns.with(value);
        town.setMode(mode);
        town.addRule('a', 0, 0, 0, more, 100);
        town.addRule('a', 0, 0, limit, 7, 100);
        town.pass(1);
        return town.trait(0, 0);
    }

    static void modes() {
        Edges.says("In the mode 't', in turn, each sees what was done ahead of it.");
        Edges.answers("what other people became", "14 14", () -> pair('t', 10, 14, 3, 9), TermsOfRules::both);
        Edges.same("what the last of twenty became", "14 14", lastPair('t'));
        Edges.same("the guard reaches the limit", 20, guarded('t', 10, 3, 13));
        Edges.same("the guard does not reach it", 13, guarded('t', 10, 3, 14));
        Edges.same("the guard falls to the limit", 14, guarded('t', 10, -3, 7));
        Edges.same("the guard falls below it", 7, guarded('t', 10, -3, 8));
        Edges.says("In the mode 'a', at once, all that a rule sees is as the day began, its guard always, but what the trait"
                + " that it changes becomes is told from how that is by then.");
        // 10+3=13 to 14; 14+3=17 toward 10 by 9: 10
        Edges.answers("what other people were", "14 10", () -> pair('a', 10, 14, 3, 9), TermsOfRules::both);
        Edges.same("what the last of twenty were", "14 10", lastPair('a'));
        Edges.same("the guard was the limit", 14, guarded('a', 10, -3, 10));
        Edges.same("the guard was one below", 13, guarded('a', 10, 3, 11));
        Edges.same("both add", 20, guarded('a', 10, 3, 10));
        Edges.same("held by then", 99, guarded('a', 95, 9, 95));
        Edges.answers("held by then, and less", 98, () -> Towns.with(95), town -> {
            town.setMode('a');
            town.addRule('a', 0, 0, 0, 9, 100);
            town.addRule('a', 0, 0, 0, -1, 100);
            town.pass(1);
            return town.trait(0, 0);
        });
        // 10+5=15 is beyond 12 by then: down; 12+5=17 toward 10: 10
        Edges.answers("beyond the mean by then", "12 10", () -> pair('a', 10, 12, 5, 7), TermsOfRules::both);
        // 10+2=12 is at the mean by then; 12+2=14 goes away from 10
        Edges.answers("at the mean by then", "12 19", () -> pair('a', 10, 12, 2, -5), TermsOfRules::both);
        Edges.answers("the next day sees it", 16, () -> {
            Madeham town = Towns.with(10);
            town.setMode('a');
            town.addRule('a', 0, 0, 0, 3, 100);
            town.addRule('a', 0, 0, 13, 0, 100);
            town.pass(2);
            return town;
        }, town -> town.trait(0, 0));
        Edges.answers("the next day's guard sees it", 23, () -> {
            Madeham town = Towns.with(10);
            town.setMode('a');
            town.addRule('a', 0, 0, 0, 3, 100);
            town.addRule('a', 0, 0, 13, 7, 100);
            town.pass(2);
            return town;
        }, town -> town.trait(0, 0));
    }

    /** Every call that changes what was told. */
    private static Object change(Madeham town, int which) {
        switch (which) {
            case 0: return town.addPlace();
            case 1: return town.link(0, 2, 7);
            case 2: return town.make();
            case 3: return town.setWork(0, 1);
            case 4: return town.tie(0, 2, true);
            case 5: return town.setTrait(0, 3, 5);
            case 6: return town.addRule('a', 0, 0, 0, 1, 100);
            case 7: return town.setOn(0, false);
            case 8: return town.setAmount(0, 1);
            case 9: return town.setMode('t');
            default: return town.setSeed(5);
        }
    }

    static void cannotBeChanged() {
        Edges.says("What was told of places, people, ties, rules, the mode and the seed cannot be changed once a day went by,"
                + " until the town is reset to how it was as the first day began.");
        for (int which = 0; which <= 10; which++) {
            int call = which;
            Edges.refused("behind one day, call " + which, Due.UNSUPPORTED, () -> {
                Madeham town = Towns.ordinary();
                town.pass(1);
                return town;
            }, town -> change(town, call));
            Edges.refused("behind three days, call " + which, Due.UNSUPPORTED, PASSED, town -> change(town, call));
            Object due = change(Towns.ordinary(), call);
            Edges.answers("reset, call " + which, due, PASSED, town -> {
                town.reset();
                return change(town, call);
            });
        }
        Edges.answers("margins can", 2, PASSED, town -> town.setGroup(0, 3));
        Edges.answers("margins of places can", 2, PASSED, town -> town.setHomes(0, 3));
        Edges.answers("they stay as the town is reset", 3, PASSED, town -> {
            town.setGroup(0, 3);
            town.reset();
            return town.setGroup(0, 2);
        });
    }

    static void means() {
        Edges.says("Means are told in hundredths: the sum times 100, divided by how many there are, cut.");
        int[][] cases = {{0, 0}, {9900, 99}, {50, 0, 1}, {33, 0, 0, 1}, {66, 0, 1, 1}, {14, 0, 0, 0, 0, 0, 0, 1},
            {9885, 98, 99, 99, 99, 99, 99, 99}};
        for (int[] of : cases) {
            int[] values = Arrays.copyOfRange(of, 1, of.length);
            Edges.answers("of all", of[0], () -> Towns.with(values), town -> town.mean(0));
            Edges.answers("of a group", of[0], () -> Towns.with(values), town -> town.groupMean(0, 0));
            Edges.answers("of those who answer", of[0], () -> Towns.with(values), town -> town.survey(0, 1, 0));
        }
        int[] twenty = new int[20];
        twenty[19] = 1;
        Edges.answers("a twentieth", 5, () -> Towns.with(twenty), town -> town.mean(0));
    }
}
