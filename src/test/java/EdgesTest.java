/** For each sentence of the document that names an edge, a test that names the sentence. */
public final class EdgesTest {
    public static void main(String[] args) {
        EdgesOfForms.run();
        EdgesOfThings.run();
        EdgesOfAuthorize.run();
        EdgesOfToken.run();
        EdgesOfTurn.run();
        EdgesOfRevoke.run();
        EdgesOfCalls.run();
        EdgesOfSetup.run();
        EdgesOfAnswers.run();
        EdgesFarOn.run();
        Doc.close();
        Kit.close();
    }
}
