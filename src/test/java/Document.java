import java.nio.charset.StandardCharsets;
import java.nio.file.Files;
import java.nio.file.Path;
import java.util.ArrayList;
import java.util.List;

/** The document's words, and which of them some test is about; part 0 is "Terms", part n is Promise n. */
final class Document {
  private static final int PROMISES = 32;
  private final String all;
  private final List<String> parts = new ArrayList<>();
  private final List<boolean[]> told = new ArrayList<>();

  Document(String path) throws Exception {
    all = Files.readString(Path.of(path), StandardCharsets.UTF_8);
    add(between(all, "## Terms\n", "## Promise 1:"));
    for (int n = 1; n <= PROMISES; n++) {
      String promise = between(all, "## Promise " + n + ":", "\n## ");
      add(promise.substring(promise.indexOf("`: ") + 3));
    }
  }

  private static String between(String all, String head, String next) {
    int from = all.indexOf(head) + head.length();
    return all.substring(from, all.indexOf(next, from));
  }

  private void add(String text) {
    String plain = text.replaceAll("```(text)?", " ").replaceAll("==== I+\\.", " ").replaceAll("\\s+", " ");
    parts.add(plain);
    told.add(new boolean[plain.length()]);
  }

  /** Whether the words stand anywhere in it. */
  boolean says(String words) {
    return all.contains(words);
  }

  /** The lines of the public face, without what is around them. */
  List<String> face() {
    List<String> lines = new ArrayList<>();
    for (String line : between(all, "public final class WhichLane {\n", "}\n").split("\n")) {
      lines.add(line.trim());
    }
    return lines;
  }

  /** A test is about these words; false if the document has no such words there. */
  boolean tell(int part, String words) {
    int from = parts.get(part).indexOf(words);
    for (int i = from; from >= 0 && i < from + words.length(); i++) {
      told.get(part)[i] = true;
    }
    return from >= 0;
  }

  /** The words that no test is about, part by part. */
  List<String> leftOut() {
    List<String> all = new ArrayList<>();
    for (int part = 0; part < parts.size(); part++) {
      StringBuilder s = new StringBuilder();
      for (int i = 0; i < parts.get(part).length(); i++) {
        s.append(told.get(part)[i] ? '|' : parts.get(part).charAt(i));
      }
      for (String words : s.toString().split("\\|+")) {
        if (words.matches(".*\\w.*")) {
          all.add("part " + part + ": " + words.trim());
        }
      }
    }
    return all;
  }
}
