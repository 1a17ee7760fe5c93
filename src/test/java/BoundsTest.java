import java.io.IOException;

/**
 * The document sentence by sentence: each sentence of its terms and promises has at least one test here,
 * which quotes it and stands at the bounds that it names.
 */
final class BoundsTest {
    private static final String DOCUMENT = "../shared/DOC.md";

    public static void main(String[] args) throws IOException {
        Sentences all = new Sentences(DOCUMENT);
        TermsOfClaimsBounds.tell(all);
        TermsOfYearsBounds.tell(all);
        TermsOfOffersBounds.tell(all);
        TermsOfSuitsBounds.tell(all);
        ClaimsAndYearsBounds.tell(all);
        OffersAndVotesBounds.tell(all);
        SuitsAndProgrammeBounds.tell(all);
        AskedBounds.tell(all);
        all.end();
        Check.end("BoundsTest");
    }
}
