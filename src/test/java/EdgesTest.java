/** The edges that the document names, sentence by sentence: just inside, just outside, empty, full, refused. */
public final class EdgesTest {
    public static void main(String[] args) {
        EdgesOfTerms.all();
        EdgesOfTexts.all();
        EdgesOfGuests.all();
        EdgesOfDays.all();
        EdgesOfBest.all();
        EdgesOfToldDays.all();
        EdgesOfLots.all();
        EdgesOfHost.all();
        EdgesOfWhole.all();
        Doc.audit();
        Due.end();
    }
}
