/** Each sentence of the document that names a bound, with a test of its own. */
public final class BoundaryTest {
  private BoundaryTest() {}

  public static void main(String[] args) {
    WordBounds.all();
    CountBounds.all();
    ChanceBounds.all();
    ScriptBounds.all();
    WouldBeBounds.all();
    Boundaries.eachThrowsWasTold();
    Check.end("BoundaryTest");
  }
}
