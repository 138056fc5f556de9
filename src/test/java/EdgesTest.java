/** The boundary cases, sentence by sentence: each check says which sentence of the document it is for. */
public final class EdgesTest {
    public static void main(String[] args) {
        TermsOfScales.test();
        TermsOfShops.test();
        TermsOfDays.test();
        TermsOfTexts.test();
        TermsOfUndo.test();
        PromisesOfInput.test();
        PromisesOfChanges.test();
        PromisesOfBureau.test();
        PromisesOfScales.test();
        PromisesOfShops.test();
        PromisesOfQuestions.test();
        PromisesOfOutput.test();
        ShopArguments.test();
        Sentence.end();
        Check.end();
    }

    private EdgesTest() {
    }
}
