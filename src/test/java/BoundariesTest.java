/** Each sentence of the document that names a boundary has a test of its own, and none is left out. */
public final class BoundariesTest extends Sentences {
  public static void main(String[] args) {
    runAll(TextBoundaries.class);
    runAll(ActBoundaries.class);
    runAll(AskBoundaries.class);
    allAreQuoted();
    System.out.println("BoundariesTest: " + sentences + " sentences, " + wrong + " wrong");
    if (wrong != 0) System.exit(1);
  }
}
