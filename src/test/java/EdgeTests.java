/** For each sentence of the document that names a boundary case a test of its own. */
final class EdgeTests {
  private EdgeTests() {}

  public static void main(String[] args) {
    int wrong = run();
    System.out.println(Sentences.total());
    if (wrong != 0) {
      System.exit(1);
    }
  }

  static int run() {
    RecordEdges.all();
    ReelEdges.all();
    DriveEdges.all();
    SortingEdges.all();
    CallEdges.all();
    return Sentences.wrong();
  }
}
