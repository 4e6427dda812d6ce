import java.io.IOException;
import java.nio.file.Path;

/**
 * Each sentence of the document that names an edge (too small, too large, empty, full, gone round, refused)
 * has a test of its own, which bears its words; run from the project's folder.
 */
public final class EdgeTest {
  public static void main(String[] args) throws IOException {
    EdgesOfText.all();
    EdgesOfRows.all();
    EdgesOfAllRows.all();
    EdgesOfCarts.all();
    EdgesOfSeen.all();
    EdgesOfGames.all();
    EdgesOfChance.all();
    EdgesOfState.all();
    Sentences.compareWith(Path.of("../shared/DOC.md"));
    Sentences.end();
  }
}
