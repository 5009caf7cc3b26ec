/** The boundary cases of the sentences of "Terms". */
public final class TermsEdgesTest {
    public static void main(String[] args) throws Exception {
        Edges.terms();
        TermsOfPeople.places();
        TermsOfPeople.margins();
        TermsOfPeople.cells();
        TermsOfPeople.people();
        TermsOfPeople.makeAgain();
        TermsOfPeople.draws();
        TermsOfRules.overview();
        TermsOfRules.rules();
        TermsOfRules.acts();
        TermsOfRules.adds();
        TermsOfRules.influences();
        TermsOfRules.travels();
        TermsOfRules.days();
        TermsOfRules.modes();
        TermsOfRules.cannotBeChanged();
        TermsOfRules.means();
        TermsOfThought.runs();
        TermsOfThought.designs();
        TermsOfThought.figures();
        TermsOfThought.causes();
        TermsOfThought.exceptions();
        Edges.allSaid();
        lastCall();
        Due.end();
    }

    /** "An object is used for at most 512 calls after it has been made": the last of them is answered like any other. */
    private static void lastCall() {
        Madeham town = Towns.with(10);
        town.addRule('a', 0, 0, 0, 1, 100);
        // addPlace, setGroup, setHomes, make, setTrait and addRule were the first six
        int days = 0;
        for (int call = 7; call < 512; call++) {
            boolean isReset = call % 5 == 0;
            int due = isReset ? days : days + 1;
            Due.is("call " + call, due, isReset ? town::reset : () -> town.pass(1));
            days = isReset ? 0 : due;
        }
        Due.is("the 512th call", 11, () -> town.trait(0, 0));
    }
}
