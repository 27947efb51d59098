import java.nio.charset.StandardCharsets;
import java.nio.file.Files;
import java.nio.file.Path;
import java.util.regex.Matcher;
import java.util.regex.Pattern;

/** Rules of LANGUAGE.md that can be read off the source, and the objects that calls make (rule 12). */
final class LanguageTests {
  private static final String[] FORBIDDEN = {
    "\\b(throw|throws|try|catch|synchronized|assert|import|package|instanceof|protected|volatile|native|var)\\b",
    "->", "::", "\\bExact\\b|\\w+Exact\\(", "\\b(equals|hashCode|toString)\\b", "\\bstatic\\s*\\{", "\\b(float|double)\\b",
    "\"\\s*\\+|\\+\\s*\"", "\\b(Integer|Long)\\.[A-Z]", "\\b(Integer|Long|Short|Byte)\\b(?!\\.)", "\\bthis\\b"};
  private static final Pattern LIBRARY = Pattern.compile("\\b(String|System|Math|Integer|Long|Arrays|[A-Z][a-z]\\w+)\\.(\\w+)");
  private static final String ALLOWED = " Math.min Math.max Integer.bitCount System.arraycopy ";
  private static final int MOST_LINES = 60;
  private static final long MOST_BYTES_A_CALL = 64;

  private LanguageTests() {
  }

  static void test(Tally t, String path) throws Exception {
    String text = Files.readString(Path.of(path), StandardCharsets.UTF_8);
    String bare = text.replaceAll("(?s)/\\*.*?\\*/", "").replaceAll("//[^\n]*", "");
    for (String rule : FORBIDDEN) {
      t.holds("language: without " + rule, !Pattern.compile(rule).matcher(bare).find());
    }
    Matcher m = LIBRARY.matcher(bare);
    while (m.find()) {
      t.holds("language: library " + m.group(), ALLOWED.contains(" " + m.group() + " "));
    }
    for (int i = 0; i < text.length(); i++) {
      t.holds("language: signs", text.charAt(i) < 128);
    }
    methodsAreShort(t, bare);
    objectsAreMadeInConstructors(t, bare);
    callsMakeNothing(t);
  }

  private static void methodsAreShort(Tally t, String bare) {
    int start = -1;
    String[] lines = bare.split("\n");
    for (int i = 0; i < lines.length; i++) {
      if (lines[i].matches(" {2,4}\\S.*\\) \\{")) {
        start = i;
      } else if (lines[i].matches(" {2,4}\\}") && start >= 0) {
        t.holds("language: short " + lines[start], i - start <= MOST_LINES);
        start = -1;
      }
    }
  }

  private static void objectsAreMadeInConstructors(Tally t, String bare) {
    String method = "";
    for (String line : bare.split("\n")) {
      if (line.matches(" {2,4}\\S.*\\) \\{")) {
        method = line;
      }
      t.holds("language: made outside a constructor: " + line,
          !line.matches(".*\\bnew\\b.*") || method.matches(" +(public )?[A-Z]\\w*\\(\\) \\{"));
    }
  }

  /** What all the calls of a run allocate, told by the machine itself. */
  private static void callsMakeNothing(Tally t) {
    com.sun.management.ThreadMXBean bean =
        (com.sun.management.ThreadMXBean) java.lang.management.ManagementFactory.getThreadMXBean();
    WhichLane x = PromiseTests.houseOf("s60,1;s7,2;l1;l2;l3;l3;a00,25;a01,25;q10,3;");
    long id = Thread.currentThread().getId();
    everyCall(x);
    long before = bean.getThreadAllocatedBytes(id);
    int calls = everyCall(x);
    long made = bean.getThreadAllocatedBytes(id) - before;
    t.holds("language: objects made by calls, bytes " + made, made <= MOST_BYTES_A_CALL * calls);
  }

  private static int everyCall(WhichLane x) {
    int sum = x.feed(3, 0x3b306cL) + x.house() + x.sort(0, 0) + x.lane(0, 0) + x.word(0, 1) + x.set(2, 30) + x.come(0, 0, 25);
    sum += x.cost() + x.waited(0) + x.served(0) + x.lost(0) + x.strayed() + x.longest(0) + x.passed(0) + x.last();
    sum += x.mean(0, 0) + x.bestWord() + x.fewest(5) + x.edge() + x.signs() + x.bestRule() + x.buys(0, 1, 5);
    sum += x.fails(0, 0, 9) + x.weave() + x.order(0) + x.rests(0) + x.row(1) + x.judge() + x.image() + x.on() + x.count(3);
    return sum == Integer.MIN_VALUE ? 0 : 31;
  }
}
