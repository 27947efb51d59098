/** Tests that each begin with the words of the document that they are about. */
abstract class SentenceTests {
  static final int FAR = 1000000000;
  static final int SWITCH = 0;
  static final int GAP = 1;
  static final int STRAYS = 2;
  static final int EXTRA = 3;
  static final int RULE = 4;
  static final int LONGEST = 5;
  static final int SHUT = 6;
  static final int SIGN = 7;
  static final int APART = 1;
  static final int QUICK = 2;
  static final int FIRST = 3;
  static final int LAST = 4;

  private final Tally t;
  private final Document document;
  private String words = "";
  private int part;
  private boolean isTested = true;

  SentenceTests(Tally t, Document document) {
    this.t = t;
    this.document = document;
  }

  abstract void sentences();

  final void test() {
    sentences();
    ended();
  }

  /** What is due from here on is due by these words of a part of the document (0 the terms, n promise n). */
  final void about(int itsPart, String... itsWords) {
    ended();
    isTested = false;
    part = itsPart;
    words = itsWords[0];
    for (String w : itsWords) {
      t.holds("the document's part " + part + " says \"" + w + "\"", document.tell(part, w));
    }
  }

  private void ended() {
    t.holds("a test of \"" + words + "\"", isTested);
  }

  final void due(String what, long got, long want) {
    isTested = true;
    t.due(part + " \"" + words + "\": " + what, got, want);
  }

  final void same(String what, String got, String want) {
    isTested = true;
    t.holds(part + " \"" + words + "\": " + what + ": " + got + " is " + want, got.equals(want));
  }

  /** A house of these texts; one of none is a new object. */
  static WhichLane house(String... texts) {
    return texts.length == 1 && texts[0].isEmpty() ? new WhichLane() : PromiseTests.houseOf(texts);
  }

  /** The house with these settings: what and how much, by turns. */
  static WhichLane with(WhichLane x, int... settings) {
    for (int i = 0; i < settings.length; i += 2) {
      x.set(settings[i], settings[i + 1]);
    }
    return x;
  }

  static int tell(WhichLane x, String text) {
    return PromiseTests.tell(x, text);
  }

  static int feed(WhichLane x, String text) {
    return PromiseTests.feed(x, text);
  }

  /** All that calls tell of what is told; nothing is changed by it, and no call of it is refused. */
  static String state(WhichLane x) {
    StringBuilder s = new StringBuilder();
    for (int what = 0; what <= 6; what++) {
      s.append(x.count(what)).append(' ');
    }
    for (int sort = 0; sort < x.count(0); sort++) {
      for (int what = 0; what <= 5; what++) {
        s.append(x.sort(sort, what)).append(what < 5 ? ',' : ' ');
      }
    }
    for (int lane = 0; lane < x.count(1); lane++) {
      for (int quarter = 0; quarter <= 3; quarter++) {
        s.append(x.lane(lane, quarter)).append(quarter < 3 ? ',' : ' ');
      }
    }
    for (int what = 0; what <= 7; what++) {
      int v = x.set(what, 1);
      x.set(what, v);
      s.append(v).append(' ');
    }
    return s.toString();
  }

  /** How many refusals there were, -1 first. */
  static String refusals(WhichLane x) {
    StringBuilder s = new StringBuilder();
    for (int what = 11; what <= 16; what++) {
      s.append(x.count(what)).append(what < 16 ? "," : "");
    }
    return s.toString();
  }
}
