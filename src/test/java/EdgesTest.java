import java.io.IOException;

/** Every sentence of the document, told in its words, with answers that hold it: its ordinary and its edge cases. */
public final class EdgesTest {
    public static void main(String[] args) throws IOException {
        Said said = new Said(new Due());
        new EdgesOfTexts(said).all();
        new EdgesOfDoings(said).all();
        new EdgesOfTicks(said).all();
        new EdgesOfRows(said).all();
        new EdgesOfRiver(said).all();
        new EdgesOfAll(said).all();
        said.end();
    }
}
