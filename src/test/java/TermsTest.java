/** Each sentence of the document's chapter 'Terms', with the bounds that it names. */
public final class TermsTest {
    private TermsTest() {
    }

    public static void main(String[] args) {
        RoleTerms.all();
        NightTerms.all();
        ActTerms.all();
        TellingTerms.all();
        DayTerms.all();
        WinTerms.all();
        WorldTerms.all();
        RatingTerms.all();
        Doc.allTermsAreQuoted();
        Due.end("TermsTest");
    }
}
