import java.lang.reflect.Constructor;
import java.lang.reflect.Field;
import java.lang.reflect.Method;
import java.lang.reflect.Modifier;
import java.nio.charset.StandardCharsets;
import java.nio.file.Files;
import java.nio.file.Path;
import java.util.List;
import java.util.Set;
import java.util.TreeSet;

/** The public face is that of the document, and nothing more. */
final class FaceTests {
  private static final String[] FACE = {"feed(int,long)", "house()", "sort(int,int)", "lane(int,int)", "word(int,int)",
    "set(int,int)", "come(int,int,int)", "cost()", "waited(int)", "served(int)", "lost(int)", "strayed()", "longest(int)",
    "passed(int)", "last()", "mean(int,int)", "bestWord()", "fewest(int)", "edge()", "signs()", "bestRule()",
    "buys(int,int,int)", "fails(int,int,int)", "weave()", "order(int)", "rests(int)", "row(int)", "judge()", "image()",
    "on()", "count(int)"};
  private static final int MOST_CLASSES = 12;
  private static final int MOST_FIELDS = 20;
  private static final int MOST_PARAMETERS = 7;

  private FaceTests() {
  }

  static void test(Tally t, Document document, String source) throws Exception {
    faceOfTheDocument(t, document.face(), Files.readString(Path.of(source), StandardCharsets.UTF_8));
    Set<String> due = new TreeSet<>(Set.of(FACE));
    Set<String> names = new TreeSet<>();
    Set<String> got = new TreeSet<>();
    for (Method m : WhichLane.class.getDeclaredMethods()) {
      if (!Modifier.isPrivate(m.getModifiers())) {
        got.add(told(m));
        names.add(m.getName());
        t.holds("face: " + m + " is public and answers an int",
            Modifier.isPublic(m.getModifiers()) && m.getReturnType() == int.class && !Modifier.isStatic(m.getModifiers()));
      }
    }
    t.holds("face: the methods of the document: " + got, got.equals(due));
    t.holds("face: final", Modifier.isFinal(WhichLane.class.getModifiers()));
    Constructor<?>[] made = WhichLane.class.getDeclaredConstructors();
    t.holds("face: one constructor", made.length == 1 && made[0].getParameterCount() == 0
        && Modifier.isPublic(made[0].getModifiers()));
    Class<?>[] inside = WhichLane.class.getDeclaredClasses();
    t.holds("face: few classes", inside.length < MOST_CLASSES);
    looked(t, WhichLane.class, names);
    for (Class<?> c : inside) {
      t.holds("face: static inside " + c, Modifier.isStatic(c.getModifiers()) && !Modifier.isPublic(c.getModifiers()));
      looked(t, c, names);
    }
  }

  /** Names of parameters, too: the source has each line of the document's face, in its order, and nothing else public. */
  private static void faceOfTheDocument(Tally t, List<String> face, String source) {
    int from = 0;
    int publics = 1;
    for (String line : face) {
      String head = "\n  " + line.substring(0, line.length() - 1) + " {\n";
      int at = source.indexOf(head, from);
      t.holds("face: " + line, line.endsWith(";") && at >= 0);
      from = Math.max(from, at);
      publics++;
    }
    t.due("face: public in the source", source.split("\\bpublic\\b", -1).length - 1, publics);
    t.holds("face: the document has all " + FACE.length + " and the constructor", face.size() == FACE.length + 1);
    t.holds("face: class", source.contains("\npublic final class WhichLane {\n"));
  }

  private static void looked(Tally t, Class<?> c, Set<String> names) {
    int fields = 0;
    for (Field f : c.getDeclaredFields()) {
      int mods = f.getModifiers();
      t.holds("face: private or inside " + f, c != WhichLane.class || Modifier.isPrivate(mods));
      t.holds("face: static is final " + f, !Modifier.isStatic(mods) || Modifier.isFinal(mods));
      fields += Modifier.isStatic(mods) ? 0 : 1;
    }
    t.holds("face: few fields in " + c, fields <= MOST_FIELDS);
    for (Method m : c.getDeclaredMethods()) {
      t.holds("face: few parameters " + m, m.getParameterCount() <= MOST_PARAMETERS);
      t.holds("face: no name of a public one " + m, m.getDeclaringClass() == WhichLane.class && Modifier.isPublic(m.getModifiers())
          || !names.contains(m.getName()));
    }
  }

  private static String told(Method m) {
    StringBuilder s = new StringBuilder(m.getName()).append('(');
    for (Class<?> p : m.getParameterTypes()) {
      s.append(s.charAt(s.length() - 1) == '(' ? "" : ",").append(p.getName());
    }
    return s.append(')').toString();
  }
}
