/** Promises 14 to 19, with what rules of each kind do. */
public final class RulesDrawsTest {
    public static void main(String[] args) {
        addRule();
        addRuleRefuses();
        adds();
        influences();
        travels();
        chance();
        setOn();
        setAmount();
        setMode();
        setSeed();
        draw();
        Due.end();
    }

    private static void addRule() {
        Madeham town = Towns.ofOnePlace(1);
        Due.is("14 first", 0, () -> town.addRule('a', 0, 0, 0, -9, 0));
        Due.is("14 second", 1, () -> town.addRule('i', 3, 3, 99, 9, 100));
        Due.is("14 third", 2, () -> town.addRule('t', 0, 0, 0, 0, 0));
        Due.is("14 on at first", true, () -> town.setOn(2, true));
        Due.is("14 amount", 9, () -> town.setAmount(1, 9));
        for (int rule = 3; rule < 6; rule++) {
            Due.is("14 more", rule, () -> town.addRule('a', 0, 0, 0, 0, 0));
        }
        Due.is("14 full", Due.STATE, () -> town.addRule('a', 0, 0, 0, 0, 0));
        Due.is("14 argument ahead of full", Due.ARGUMENT, () -> town.addRule('a', 4, 0, 0, 0, 0));
        town.pass(1);
        Due.is("14 a day ahead of full", Due.UNSUPPORTED, () -> town.addRule('a', 0, 0, 0, 0, 0));
    }

    private static void addRuleRefuses() {
        Madeham town = Towns.ofOnePlace(1);
        Due.is("14 no kind", Due.ARGUMENT, () -> town.addRule('b', 0, 0, 0, 0, 0));
        Due.is("14 kind 'A'", Due.ARGUMENT, () -> town.addRule('A', 0, 0, 0, 0, 0));
        Due.is("14 kind of another page", Due.ARGUMENT, () -> town.addRule((char) ('a' + 256), 0, 0, 0, 0, 0));
        for (int wrong : new int[] {-1, 4, Integer.MAX_VALUE, Integer.MIN_VALUE}) {
            Due.is("14 trait " + wrong, Due.ARGUMENT, () -> town.addRule('a', wrong, 0, 0, 0, 0));
            Due.is("14 guard " + wrong, Due.ARGUMENT, () -> town.addRule('t', 0, wrong, 0, 0, 0));
        }
        for (int wrong : new int[] {-1, 100}) {
            Due.is("14 limit " + wrong, Due.ARGUMENT, () -> town.addRule('t', 0, 0, wrong, 0, 0));
        }
        for (int wrong : new int[] {-10, 10}) {
            Due.is("14 amount " + wrong, Due.ARGUMENT, () -> town.addRule('i', 0, 0, 0, wrong, 0));
        }
        for (int wrong : new int[] {-1, 101}) {
            Due.is("14 chance " + wrong, Due.ARGUMENT, () -> town.addRule('i', 0, 0, 0, 0, wrong));
        }
        town.pass(1);
        Due.is("14 a day went by", Due.UNSUPPORTED, () -> town.addRule('a', 0, 0, 0, 0, 0));
        Due.is("14 argument ahead of the day", Due.ARGUMENT, () -> town.addRule('x', 0, 0, 0, 0, 0));
        town.reset();
        Due.is("14 none was added", 0, () -> town.addRule('a', 0, 0, 0, 0, 0));
    }

    private static void adds() {
        Madeham town = Towns.with(95, 20, 19, 3);
        town.addRule('a', 0, 0, 20, 9, 100);
        town.pass(1);
        Due.same("14 'a', held above, guarded", "99 29 19 3", Towns.values(town, 4));
        Madeham less = Towns.with(5, 9, 10);
        less.setTrait(0, 1, 40);
        less.setTrait(1, 1, 39);
        less.setTrait(2, 1, 41);
        less.addRule('a', 0, 1, 40, -9, 100);
        less.pass(1);
        Due.same("14 'a', held below, guard of another trait", "0 9 1", Towns.values(less, 3));
    }

    private static void influences() {
        Due.same("14 'i' toward, mean cut", "13 26 0", influenced('t', 3, 10, 29, 0));
        Due.same("14 'i' not beyond", "29 28 0", influenced('a', 9, 28, 29, 0));
        Due.same("14 'i' away, held", "0 94 0", influenced('a', -9, 5, 85, 0));
        Due.same("14 'i' away, farther than the mean is", "47 54 0", influenced('a', -3, 50, 51, 0));
        Due.same("14 'i' at the mean", "50 50 0", influenced('t', -9, 50, 50, 0));
        Madeham town = Towns.with(0, 11, 10);
        town.tie(0, 1, true);
        town.tie(0, 2, true);
        town.setMode('a');
        town.addRule('i', 0, 0, 0, 9, 100);
        town.addRule('i', 0, 0, 0, 9, 100);
        town.pass(1);
        // the mean over 11 and 10 is cut to 10; the second rule goes on from what the first one made
        Due.same("14 'i' mean is cut", "10 0 0", Towns.values(town, 3));
        Madeham guarded = Towns.with(9, 50);
        guarded.tie(0, 1, true);
        guarded.addRule('i', 0, 0, 10, 5, 100);
        guarded.pass(1);
        Due.same("14 'i' guarded", "9 45", Towns.values(guarded, 2));
    }

    /** Two with a tie and one without, behind one day. */
    private static String influenced(char mode, int amount, int first, int second, int third) {
        Madeham town = Towns.with(first, second, third);
        town.tie(0, 1, true);
        town.setMode(mode);
        town.addRule('i', 0, 0, 0, amount, 100);
        town.pass(1);
        return Towns.values(town, 3);
    }

    private static void travels() {
        Madeham town = Towns.with(50, 50, 50, 50);
        for (int place = 1; place < 5; place++) {
            town.addPlace();
        }
        town.link(0, 1, 20);
        town.link(0, 2, 21);
        town.setWork(1, 1);
        town.setWork(2, 2);
        town.setWork(3, 4);
        town.addRule('t', 0, 1, 20, -4, 100);
        for (int person = 0; person < 4; person++) {
            town.setTrait(person, 1, 0);
        }
        town.pass(1);
        Due.same("14 't' more than the limit, guard not looked at", "50 50 46 46", Towns.values(town, 4));
    }

    private static void chance() {
        Madeham town = Towns.ofOnePlace(1);
        int drawn = town.draw(0, 1, 1);
        town.addRule('a', 0, 0, 0, 0, 100);
        town.addRule('a', 0, 0, 0, 1, drawn);
        town.setTrait(0, 0, 7);
        town.pass(1);
        Due.same("14 the draw is the chance", 7, town.trait(0, 0));
        Madeham likely = Towns.ofOnePlace(1);
        likely.addRule('a', 0, 0, 0, 0, 100);
        likely.addRule('a', 0, 0, 0, 1, drawn + 1);
        likely.setTrait(0, 0, 7);
        likely.pass(1);
        Due.same("14 the draw is below the chance", 8, likely.trait(0, 0));
        Madeham never = Towns.with(5);
        never.addRule('a', 0, 0, 0, 1, 0);
        never.pass(30);
        Due.same("14 no chance", 5, never.trait(0, 0));
    }

    private static void setOn() {
        Madeham town = Towns.with(10);
        town.addRule('a', 0, 0, 0, 1, 100);
        town.addRule('a', 0, 0, 0, 5, 100);
        Due.is("15 was on", true, () -> town.setOn(0, false));
        Due.is("15 was off", false, () -> town.setOn(0, false));
        Due.is("15 no rule", Due.BOUNDS, () -> town.setOn(2, true));
        Due.is("15 below", Due.BOUNDS, () -> town.setOn(-1, true));
        town.pass(1);
        Due.same("15 only the other one acts", 15, town.trait(0, 0));
        Due.is("15 a day went by", Due.UNSUPPORTED, () -> town.setOn(0, true));
        Due.is("15 rule first", Due.BOUNDS, () -> town.setOn(2, true));
        town.reset();
        Due.is("15 unchanged", false, () -> town.setOn(0, true));
        town.pass(1);
        Due.same("15 both act", 16, town.trait(0, 0));
    }

    private static void setAmount() {
        Madeham town = Towns.with(50);
        town.addRule('a', 0, 0, 0, 1, 100);
        Due.is("16 before", 1, () -> town.setAmount(0, -9));
        Due.is("16 lowest", -9, () -> town.setAmount(0, 9));
        Due.is("16 too low", Due.ARGUMENT, () -> town.setAmount(0, -10));
        Due.is("16 too high", Due.ARGUMENT, () -> town.setAmount(0, 10));
        Due.is("16 rule first", Due.BOUNDS, () -> town.setAmount(1, 10));
        Due.is("16 below", Due.BOUNDS, () -> town.setAmount(-1, 0));
        town.pass(1);
        Due.same("16 it acts", 59, town.trait(0, 0));
        Due.is("16 a day went by", Due.UNSUPPORTED, () -> town.setAmount(0, 1));
        Due.is("16 argument ahead of the day", Due.ARGUMENT, () -> town.setAmount(0, 10));
        town.reset();
        Due.is("16 unchanged", 9, () -> town.setAmount(0, 1));
    }

    private static void setMode() {
        Madeham town = Towns.with(10, 5, 80);
        town.addRule('a', 0, 0, 0, 9, 100);
        town.addRule('a', 0, 0, 15, 1, 100);
        town.addRule('i', 0, 0, 0, 9, 100);
        town.tie(0, 1, true);
        town.tie(1, 2, true);
        town.pass(1);
        // in turn: 10+9+1=20 to 5 by 9: 11; 5+9=14 is below 15, to the mean of 11 and 80: 45 by 9: 23; 80+9+1=90 to 23: 81
        Due.same("17 in turn", "11 23 81", Towns.values(town, 3));
        Due.is("17 a day went by", Due.UNSUPPORTED, () -> town.setMode('a'));
        Due.is("17 argument first", Due.ARGUMENT, () -> town.setMode('x'));
        town.reset();
        Due.is("17 before", 't', () -> town.setMode('a'));
        Due.is("17 'a' before", 'a', () -> town.setMode('a'));
        Due.is("17 no mode", Due.ARGUMENT, () -> town.setMode('i'));
        Due.is("17 mode of another page", Due.ARGUMENT, () -> town.setMode((char) ('t' + 256)));
        town.pass(1);
        // at once: 10+9=19 (10 is below 15) to 5: 10; 5+9=14 to the mean of 10 and 80: 45 by 9: 23; 80+9+1=90 to 5: 81
        Due.same("17 at once", "10 23 81", Towns.values(town, 3));
        Madeham cross = Towns.with(44, 50);
        cross.tie(0, 1, true);
        cross.setMode('a');
        cross.addRule('a', 0, 0, 0, 9, 100);
        cross.addRule('i', 0, 0, 0, 2, 100);
        cross.pass(1);
        // 44 becomes 53, from which it goes down to 50 as the day began; 59 goes down to 44
        Due.same("17 at once, told from how it is by then", "51 57", Towns.values(cross, 2));
    }

    private static void setSeed() {
        Madeham town = Towns.ofOnePlace(2);
        int before = town.trait(1, 1);
        Due.is("18 at first", 1, () -> town.setSeed(999999));
        Due.is("18 before", 999999, () -> town.setSeed(2));
        Due.is("18 traits stay", before, () -> town.trait(1, 1));
        Due.is("18 draws do not", 2, () -> town.draw(0, 0, 0));
        Due.is("18 too low", Due.ARGUMENT, () -> town.setSeed(0));
        Due.is("18 too high", Due.ARGUMENT, () -> town.setSeed(1000000));
        town.pass(1);
        Due.is("18 a day went by", Due.UNSUPPORTED, () -> town.setSeed(3));
        Due.is("18 argument first", Due.ARGUMENT, () -> town.setSeed(0));
        town.reset();
        Due.is("18 unchanged", 2, () -> town.setSeed(3));
    }

    private static void draw() {
        Madeham town = new Madeham();
        Due.is("19 example", 1, () -> town.draw(0, 0, 0));
        Due.is("19 other example", 61, () -> town.draw(1, 2, 3));
        Due.is("19 last", 7, () -> town.draw(19, 60, 199));
        Due.is("19 person", Due.ARGUMENT, () -> town.draw(20, 0, 0));
        Due.is("19 person below", Due.ARGUMENT, () -> town.draw(-1, 0, 0));
        Due.is("19 day", Due.ARGUMENT, () -> town.draw(0, 61, 0));
        Due.is("19 day below", Due.ARGUMENT, () -> town.draw(0, -1, 0));
        Due.is("19 purpose", Due.ARGUMENT, () -> town.draw(0, 0, 200));
        Due.is("19 purpose below", Due.ARGUMENT, () -> town.draw(0, 0, -1));
        town.setSeed(999999);
        long m = (31L * 999999 + 7919L * 19 + 104729L * 60 + 1299709L * 199) * 48271L % 2147483647L;
        Due.is("19 greatest", (int) (m % 100), () -> town.draw(19, 60, 199));
    }
}
