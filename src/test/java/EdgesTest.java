import java.io.IOException;

/** Every sentence of the document that names an edge, each with a test of its own. */
public final class EdgesTest {
    public static void main(String[] args) throws IOException {
        Edge.open();
        EdgesOfCity.all();
        EdgesOfText.all();
        EdgesOfMorning.all();
        EdgesOfOutcome.all();
        EdgesOfTruth.all();
        EdgesOfRefusals.all();
        Edge.close();
    }
}
