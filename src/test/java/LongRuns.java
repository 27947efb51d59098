import java.nio.file.Files;
import java.nio.file.Path;
import java.util.ArrayList;
import java.util.HashSet;
import java.util.List;
import java.util.Set;
import java.util.TreeSet;
import java.util.stream.Stream;

/** Runs on one object as long as the document lets them be; every answer is looked at, up to that of the last call. */
final class LongRuns {
  private static final int CALLS = 512;
  private static final int LAST_CALLS = 64;
  private static final int FEWEST_FILES = 6;
  /** Which refusals each promise tells: a run in src/test/runs has each of them. */
  private static final String[] REFUSALS = {
    "feed -4 -6", "sort -1 -2", "lane -1", "word -1 -4 -6", "set -2 -4 -6", "come -1 -4 -6", "waited -1", "served -1",
    "lost -1", "longest -1", "passed -1", "mean -1 -2", "fewest -3 -4", "buys 1000000001 1000000004 1000000006",
    "fails 1000000001 1000000004 1000000006", "order -4", "rests -1", "row -4 -6", "on -3"};
  private final Tally t;
  private String run = "";
  private Asked asked = new Asked(new WhichLane());

  private LongRuns(Tally t) {
    this.t = t;
  }

  static void test(Tally t, Document document, String folder) throws Exception {
    t.holds("the document tells " + CALLS + " calls",
        document.says("An object is used for at most " + CALLS + " calls after it has been made"));
    LongRuns r = new LongRuns(t);
    r.files(folder);
    r.refusals();
    r.housesTold();
    r.rowsJudged();
    r.imagesTaken();
    r.mindAsked();
  }

  private void files(String folder) throws Exception {
    List<Path> all = new ArrayList<>();
    try (Stream<Path> found = Files.list(Path.of(folder))) {
      found.filter(p -> p.toString().endsWith(".txt")).sorted().forEach(all::add);
    }
    t.holds("long runs: " + all.size() + " files in " + folder, all.size() >= FEWEST_FILES);
    for (Path p : all) {
      List<String> lines = Files.readAllLines(p);
      begin(p.getFileName().toString());
      replay(lines, asked);
      replay(lines, new Asked(new PlainLane()));
      ended();
      looked(lines);
    }
  }

  private void replay(List<String> lines, Asked who) throws ReflectiveOperationException {
    for (String line : lines) {
      int end = line.indexOf(')') + 1;
      due(who, line.substring(0, end), Integer.parseInt(line.substring(end).trim()));
    }
  }

  /** Each public method is called among a run's last calls, and each refusal and kind of fault stands in it somewhere. */
  private void looked(List<String> lines) {
    Set<String> refused = new HashSet<>();
    Set<String> names = new TreeSet<>();
    for (String line : lines) {
      refused.add(Asked.nameOf(line) + line.substring(line.indexOf(')') + 1));
    }
    for (String line : lines.subList(Math.max(0, lines.size() - LAST_CALLS), lines.size())) {
      names.add(Asked.nameOf(line));
    }
    for (java.lang.reflect.Method m : WhichLane.class.getDeclaredMethods()) {
      if (java.lang.reflect.Modifier.isPublic(m.getModifiers())) {
        t.holds(run + " calls " + m.getName() + " near its end", names.contains(m.getName()));
      }
    }
    t.holds(run + " has faults of both kinds",
        lines.stream().anyMatch(line -> line.startsWith("house() -1")) && lines.stream().anyMatch(line -> line.startsWith("house() -2")));
    for (String told : REFUSALS) {
      String[] parts = told.split(" ");
      for (int i = 1; i < parts.length; i++) {
        t.holds(run + " has the refusal " + parts[0] + " " + parts[i], refused.contains(parts[0] + " " + parts[i]));
      }
    }
  }

  private void begin(String itsName) {
    run = "run " + itsName;
    asked = new Asked(new WhichLane());
  }

  private void due(Asked who, String call, int want) throws ReflectiveOperationException {
    int got = who.ask(call);
    t.due(run + ", call " + who.calls + ": " + call, got, want);
  }

  private void due(String call, int want) throws ReflectiveOperationException {
    due(asked, call, want);
  }

  private void ended() {
    t.due(run + ": calls", asked.calls, CALLS);
  }

  private void refusals() throws ReflectiveOperationException {
    begin("of refusals");
    String[] calls = {"sort(0, 0)", "set(8, 0)", "on()", "row(-1)", "row(32768)"};
    int[] answers = {-1, -2, -3, -4, -6};
    for (int i = 0; i < CALLS - 6; i++) {
      due(calls[i % calls.length], answers[i % calls.length]);
    }
    int[] counted = {102, 101, 101, 101, 0, 101};
    for (int kind = 0; kind < counted.length; kind++) {
      due("count(" + (11 + kind) + ")", counted[kind]);
    }
    ended();
  }

  /** "s7,3;l1;" stands behind two calls; each turn is three. */
  private void twoCalls() throws ReflectiveOperationException {
    due("feed(8, " + bytes("s7,3;l1;") + ")", 8);
    due("house()", 2);
  }

  private void housesTold() throws ReflectiveOperationException {
    begin("of houses");
    twoCalls();
    for (int turn = 0; turn < (CALLS - 2) / 3; turn++) {
      int quarter = turn % 4;
      int many = turn % 26;
      String text = "a" + quarter + "0," + many + ";";
      due("feed(" + text.length() + ", " + bytes(text) + ")", text.length());
      due("house()", 1);
      due("sort(0, " + (2 + quarter) + ")", many);
    }
    ended();
  }

  /** 25 of 7 seconds each never wait, so the mean is 0. */
  private void rowsJudged() throws ReflectiveOperationException {
    begin("of rows");
    twoCalls();
    due("come(0, 0, 25)", 0);
    for (int turn = 0; turn < (CALLS - 3) / 2; turn++) {
      due("row(" + turn % 2 + ")", 1);
      due("judge()", turn % 2 == 0 ? -9 : 0);
    }
    due("count(5)", 0);
    ended();
  }

  private void imagesTaken() throws ReflectiveOperationException {
    begin("of images");
    twoCalls();
    for (int turn = 0; turn < (CALLS - 2) / 3 - 1; turn++) {
      due("image()", 1);
      due("word(0, " + turn % 32 + ")", 1);
      due("on()", 1);
    }
    due("lane(0, 0)", 1);
    due("count(1)", 1);
    due("cost()", 0);
    ended();
  }

  /** What is asked in mind of the fullest house answers the same to the end: nothing of it is left behind. */
  private void mindAsked() throws ReflectiveOperationException {
    begin("of what is asked in mind");
    Asked plain = new Asked(new PlainLane());
    List<String> told = fullHouse();
    for (String call : told) {
      due(call, plain.ask(call));
    }
    String[] calls = {"bestWord()", "edge()", "signs()", "bestRule()", "fewest(4000000)", "buys(0, 4, 50)",
      "fails(1, 0, 99)", "order(-1)", "rests(3)", "cost()"};
    int[] answers = new int[calls.length];
    for (int i = 0; i < calls.length; i++) {
      answers[i] = plain.ask(calls[i]);
    }
    for (int i = 0; i < CALLS - told.size(); i++) {
      due(calls[i % calls.length], answers[i % calls.length]);
    }
    ended();
  }

  private static List<String> fullHouse() {
    List<String> calls = new ArrayList<>();
    String text = "s9,1;s14,9;s20,3;s8,99;s25,4;l3;l6;l12;l24;l17;l31;q10,7;q21,9;";
    for (int at = 0; at < text.length(); at += 8) {
      String part = text.substring(at, Math.min(at + 8, text.length()));
      calls.add("feed(" + part.length() + ", " + bytes(part) + ")");
    }
    calls.add("house()");
    for (int i = 0; i < 20; i++) {
      calls.add("come(" + i / 5 + ", " + i % 5 + ", 25)");
    }
    int[] settings = {7, 2, 30, 20, 2, 30, 60, 1};
    for (int what = 0; what < settings.length; what++) {
      calls.add("set(" + what + ", " + settings[what] + ")");
    }
    return calls;
  }

  private static String bytes(String text) {
    long all = 0;
    for (int i = 0; i < text.length(); i++) {
      all |= (long) text.charAt(i) << (8 * i);
    }
    return Long.toString(all);
  }
}
