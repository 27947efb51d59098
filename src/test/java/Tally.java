/** Counts what was due and what was not so. */
final class Tally {
  private static final int MOST_SHOWN = 40;
  int passed;
  int failed;

  void due(String what, long got, long want) {
    if (got == want) {
      passed++;
      return;
    }
    failed++;
    if (failed <= MOST_SHOWN) {
      System.out.println(what + " answered " + got + ", due is " + want);
    }
  }

  void holds(String what, boolean is) {
    due(what, is ? 1 : 0, 1);
  }
}
