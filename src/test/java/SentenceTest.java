import java.io.IOException;

/** For each promise a test for each sentence of the document; none of the document's words is left without one. */
public final class SentenceTest {
  public static void main(String[] args) throws IOException {
    PlayerSentences.hold();
    CardSentences.hold();
    ResultSentences.hold();
    DeedSentences.hold();
    ShelfSentences.hold();
    if (!Sentences.allHold()) {
      System.exit(1);
    }
  }
}
