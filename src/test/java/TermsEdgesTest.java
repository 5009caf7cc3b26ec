/** The boundary cases of the sentences of "Terms". */
public final class TermsEdgesTest {
    public static void main(String[] args) throws Exception {
        Edges.terms();
        TermsOfPeople.places();
        TermsOfPeople.margins();
        TermsOfPeople.cells();
        TermsOfPeople.people();
        TermsOfPeople.makeAgain();
        TermsOfPeople.draws();
        TermsOfRules.overview();
        TermsOfRules.rules();
        TermsOfRules.acts();
        TermsOfRules.adds();
        TermsOfRules.influences();
        TermsOfRules.travels();
        TermsOfRules.days();
        TermsOfRules.modes();
        TermsOfRules.cannotBeChanged();
        TermsOfRules.means();
        TermsOfThought.runs();
        TermsOfThought.designs();
        TermsOfThought.figures();
        TermsOfThought.causes();
        TermsOfThought.exceptions();
        Edges.allSaid();
        Due.end();
    }
}
