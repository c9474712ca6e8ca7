import java.io.IOException;

/** Each sentence of the document has a test of its own, and no sentence is without one. */
public final class SentencesTest {
  public static void main(String[] args) throws IOException {
    Document.open();
    DescriptionSentences.all();
    FamilySentences.all();
    OperationSentences.all();
    ColexSentences.all();
    PropertySentences.all();
    TextSentences.all();
    Document.end();
    Check.end();
  }
}
