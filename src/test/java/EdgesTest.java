/** The document, sentence by sentence: each one that tells an edge is held by a test of its own. */
public final class EdgesTest {
    public static void main(String[] args) {
        TermEdges.all();
        MoneyEdges.all();
        FindingEdges.all();
        RefusalEdges.all();
        DayEdges.all();
        TicketEdges.all();
        BookEdges.all();
        DrawerEdges.all();
        SatchelEdges.all();
        LapEdges.all();
        AskEdges.all();
        Doc.isAllQuoted();
        Check.end();
    }
}
