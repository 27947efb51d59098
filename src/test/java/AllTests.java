/** Runs all tests of the project; the one argument is the source of WhichLane. */
public final class AllTests {
  public static void main(String[] args) throws Exception {
    Tally t = new Tally();
    PromiseTests.test(t);
    FaceTests.test(t);
    LanguageTests.test(t, args[0]);
    RunsAgainstPlain.test(t);
    System.out.println(t.passed + " passed, " + t.failed + " failed");
    System.exit(t.failed == 0 ? 0 : 1);
  }
}
