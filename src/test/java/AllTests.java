/** Runs all tests of the project; the arguments are the source of WhichLane and the document. */
public final class AllTests {
  public static void main(String[] args) throws Exception {
    Tally t = new Tally();
    PromiseTests.test(t);
    sentences(t, args[1]);
    FaceTests.test(t);
    LanguageTests.test(t, args[0]);
    RunsAgainstPlain.test(t);
    System.out.println(t.passed + " passed, " + t.failed + " failed");
    System.exit(t.failed == 0 ? 0 : 1);
  }

  /** Each sentence of the document's terms and promises has a test that is about it. */
  static void sentences(Tally t, String path) throws Exception {
    Document document = new Document(path);
    new HouseSentences(t, document).test();
    new DaySentences(t, document).test();
    new MindSentences(t, document).test();
    new RefusalSentences(t, document).test();
    for (String words : document.leftOut()) {
      t.holds("a test is about \"" + words + "\"", false);
    }
  }
}
