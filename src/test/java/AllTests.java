/** Runs all tests of the project; the arguments are the source of WhichLane, the document, README.md and the folder of runs. */
public final class AllTests {
  public static void main(String[] args) throws Exception {
    Tally t = new Tally();
    PromiseTests.test(t);
    Document document = new Document(args[1]);
    sentences(t, document);
    FaceTests.test(t, document, args[0]);
    LanguageTests.test(t, args[0]);
    RunsAgainstPlain.test(t);
    LongRuns.test(t, document, args[3]);
    ReadmeTests.test(t, args[2]);
    System.out.println(t.passed + " passed, " + t.failed + " failed");
    System.exit(t.failed == 0 ? 0 : 1);
  }

  /** Each sentence of the document's terms and promises has a test that is about it. */
  static void sentences(Tally t, Document document) {
    new HouseSentences(t, document).test();
    new DaySentences(t, document).test();
    new MindSentences(t, document).test();
    new RefusalSentences(t, document).test();
    for (String words : document.leftOut()) {
      t.holds("a test is about \"" + words + "\"", false);
    }
  }
}
