import java.io.IOException;
import java.util.List;

/**
 * Each sentence of the document that names a boundary (too small, too large, empty, full, a wrap-around, a refused
 * call) has a test of its own, which names its promise and its words.
 */
public final class BoundariesTest {
  public static void main(String[] args) throws IOException {
    BoundariesOfValues.test();
    BoundariesOfTerms.test();
    BoundariesOfPlaces.test();
    BoundariesOfOperate.test();
    BoundariesOfChanges.test();
    BoundariesOfQuestions.test();
    System.out.println(Section.quoted().values().stream().mapToInt(List::size).sum() + " sentences have tests");
    Document.holdAgainst(Section.quoted());
    Check.end();
  }
}
