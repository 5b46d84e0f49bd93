import java.io.IOException;

/** Each sentence of the document that tells an edge has a test of its own; no sentence is left unnamed. */
public final class EdgesTest {
    public static void main(String[] args) throws IOException {
        Doc.read();
        // FaceTest looks at it.
        Doc.leave("The public face");
        Doc.leave("Not promised");
        EdgesOfFarm.all();
        EdgesOfWeek.all();
        EdgesOfText.all();
        EdgesOfAsking.all();
        EdgesOfActions.all();
        EdgesOfUndo.all();
        EdgesOfRefusals.all();
        EdgesOfWouldBe.all();
        EdgesOfScripts.all();
        EdgesOfSlots.all();
        Doc.end();
        Check.end("EdgesTest");
    }
}
