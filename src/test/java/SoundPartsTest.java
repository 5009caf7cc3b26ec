/** Promise 40: what no run of calls can bring about is told by the parts inside, which are spoilt here by hand. */
public final class SoundPartsTest {
    public static void main(String[] args) {
        margins();
        ties();
        ways();
        traits();
        runs();
        Due.end();
    }

    private static Madeham.People five() {
        Madeham.People people = new Madeham.People();
        people.groupMargin[0] = 3;
        people.groupMargin[2] = 2;
        people.homeMargin[1] = 4;
        people.homeMargin[4] = 1;
        people.settle(1);
        return people;
    }

    private static void margins() {
        Madeham.People people = five();
        Due.same("40 fits", true, people.fitMargins());
        people.groups[0] = 2;
        Due.same("40 a group is wrong", false, people.fitMargins());
        people.groups[0] = 0;
        people.homes[0] = 4;
        Due.same("40 a home is wrong", false, people.fitMargins());
        people.homes[0] = 1;
        people.count = 4;
        Due.same("40 one is missing", false, people.fitMargins());
        people.count = 5;
        people.groupMargin[0] = 9;
        Due.same("40 fits those by which they were made", true, people.fitMargins());
    }

    private static void ties() {
        Madeham.People people = five();
        people.bind(0, 4, true);
        Due.same("40 both ways", true, people.tiesMatch());
        people.tied[4] = 0;
        Due.same("40 one way", false, people.tiesMatch());
        people.tied[0] = 0;
        people.tied[3] = 4;
        Due.same("40 one way up", false, people.tiesMatch());
    }

    private static void ways() {
        Madeham.Places places = new Madeham.Places();
        places.append();
        places.append();
        places.append();
        places.join(0, 1, 5);
        places.join(1, 2, 6);
        Due.same("40 shortest", true, places.waysAreShortest());
        places.ways[2] = 12;
        Due.same("40 a way is too long", false, places.waysAreShortest());
        places.ways[2] = 11;
        places.ways[6] = 12;
        Due.same("40 the way back is too long", false, places.waysAreShortest());
    }

    private static Madeham.Run runOf(Madeham.People people) {
        return new Madeham.Run(new Madeham.Places(), people, new Madeham.Rules());
    }

    private static void traits() {
        Madeham.Run run = runOf(five());
        run.begin();
        Due.same("40 in range", true, run.isInRange());
        run.traits[19] = 100;
        Due.same("40 too much", false, run.isInRange());
        run.traits[19] = 99;
        run.traits[0] = -1;
        Due.same("40 too little", false, run.isInRange());
        run.traits[0] = 0;
        run.traits[20] = 100;
        Due.same("40 of nobody", true, run.isInRange());
    }

    private static void runs() {
        Madeham.People people = five();
        Madeham.Run run = runOf(people);
        Madeham.Run other = runOf(people);
        run.begin();
        other.begin();
        Due.same("40 alike", -1, run.firstUnlike(other));
        other.traits[15]++;
        Due.same("40 unlike in the last trait", 3, run.firstUnlike(other));
    }
}
