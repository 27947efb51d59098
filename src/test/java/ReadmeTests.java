import java.nio.charset.StandardCharsets;
import java.nio.file.Files;
import java.nio.file.Path;
import java.util.List;
import java.util.Set;
import java.util.TreeSet;
import java.util.regex.Matcher;
import java.util.regex.Pattern;

/** What README.md shows is so: each "x.call(..);" in its Java is asked, in its order, and answers the number behind "//". */
final class ReadmeTests {
  private static final Pattern CALL = Pattern.compile("x\\.(\\w+\\([^)]*\\));(?:\\s*//\\s*(-?\\d+)\\b.*)?");
  private static final int MOST_CALLS = 512;

  private ReadmeTests() {
  }

  static void test(Tally t, String path) throws Exception {
    List<String> lines = Files.readAllLines(Path.of(path), StandardCharsets.UTF_8);
    Set<String> shown = new TreeSet<>();
    Asked asked = new Asked(new WhichLane());
    boolean isJava = false;
    for (String line : lines) {
      if (line.startsWith("```")) {
        isJava = line.equals("```java");
      }
      Matcher m = CALL.matcher(line);
      if (!isJava || line.startsWith("```") || line.equals("WhichLane x = new WhichLane();")) {
        continue;
      }
      t.holds("README: a call that can be asked: " + line, m.matches());
      if (m.matches()) {
        t.holds("README: an answer behind " + line, m.group(2) != null);
        int got = asked.ask(m.group(1));
        t.due("README: " + line, got, m.group(2) == null ? got : Integer.parseInt(m.group(2)));
        shown.add(Asked.nameOf(m.group(1)));
      }
    }
    t.holds("README: its calls are no more than an object is used for", asked.calls <= MOST_CALLS);
    for (java.lang.reflect.Method method : WhichLane.class.getDeclaredMethods()) {
      if (java.lang.reflect.Modifier.isPublic(method.getModifiers())) {
        t.holds("README: shows " + method.getName(), shown.contains(method.getName()));
      }
    }
  }
}
