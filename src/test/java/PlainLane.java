import java.util.ArrayDeque;
import java.util.ArrayList;
import java.util.Deque;
import java.util.HashMap;
import java.util.List;
import java.util.Map;
import java.util.TreeMap;
import java.util.regex.Matcher;
import java.util.regex.Pattern;

/** The document once more, in the slowest and plainest form: what runs of calls are compared with. */
final class PlainLane {
  private static final Pattern HOUSE = Pattern.compile(
      "(s\\d{1,2},\\d{1,2};|l\\d{1,2};|a\\d\\d,\\d{1,2};|q\\d\\d,\\d{1,2};)+");
  private static final Pattern STATEMENT = Pattern.compile("[slaq][^;]*;");
  private static final int[] LEAST = {0, 0, 0, 0, 0, 1, 0, 0};
  private static final int[] MOST = {60, 20, 100, 99, 4, 60, 99, 9};

  static final class Sort {
    int seconds;
    int worth;
    int[] come = new int[4];
    int[] told = new int[4];

    Sort twin() {
      Sort t = new Sort();
      t.seconds = seconds;
      t.worth = worth;
      t.come = come.clone();
      t.told = told.clone();
      return t;
    }
  }

  static final class Lane {
    int base;
    TreeMap<Integer, Integer> changes = new TreeMap<>();

    Lane(int base) {
      this.base = base;
    }

    int at(int quarter) {
      Map.Entry<Integer, Integer> e = changes.floorEntry(quarter);
      return e == null ? base : e.getValue();
    }

    Lane twin() {
      Lane t = new Lane(base);
      t.changes.putAll(changes);
      return t;
    }
  }

  static final class World {
    List<Sort> sorts = new ArrayList<>();
    List<Lane> lanes = new ArrayList<>();
    int[] set = {0, 0, 0, 30, 0, 40, 0, 0};

    World twin() {
      World t = new World();
      for (Sort s : sorts) {
        t.sorts.add(s.twin());
      }
      for (Lane l : lanes) {
        t.lanes.add(l.twin());
      }
      t.set = set.clone();
      return t;
    }
  }

  static final class Car {
    int sort;
    int came;
    int need;
    int served = 7200;
    int done = 7200;
    int left = 7200;
    boolean begun;
    boolean gone;
    boolean lost;
    boolean strayed;
  }

  static final class Report {
    List<Car> cars = new ArrayList<>();
    int[] most = new int[6];
    int[] passed = new int[6];
    int last = -9;
    int strayed;

    int waited(int sort) {
      int all = 0;
      for (Car c : cars) {
        if (c.sort == sort && !c.lost) {
          all += Math.min(c.served, 7200) - c.came + Math.min(c.left, 7200) - Math.min(c.done, 7200);
        }
      }
      return all;
    }

    int lost(int sort) {
      return (int) cars.stream().filter(c -> c.sort == sort && c.lost).count();
    }

    int kept(int sort) {
      return (int) cars.stream().filter(c -> c.sort == sort && !c.lost).count();
    }

    int gone(int sort) {
      return (int) cars.stream().filter(c -> c.sort == sort && c.gone).count();
    }
  }

  private World w = new World();
  private World kept;
  private final StringBuilder tape = new StringBuilder();
  private final List<Integer> row = new ArrayList<>();
  private final Map<Integer, Integer> refused = new HashMap<>();

  private int no(int number) {
    refused.merge(number, 1, Integer::sum);
    return number;
  }

  private boolean isSort(int s) {
    return s >= 0 && s < w.sorts.size();
  }

  private boolean isLane(int l) {
    return l >= 0 && l < w.lanes.size();
  }

  private static boolean isIn(int v, int least, int most) {
    return v >= least && v <= most;
  }

  int feed(int n, long bytes) {
    if (n < 1) {
      return no(-4);
    }
    if (n > 8 || tape.length() + n > 64) {
      return no(-6);
    }
    for (int i = 0; i < n; i++) {
      tape.append((char) ((bytes >>> (8 * i)) & 0xff));
    }
    return tape.length();
  }

  int house() {
    String text = tape.toString();
    tape.setLength(0);
    for (int end = 1; end <= text.length(); end++) {
      Matcher m = HOUSE.matcher(text.substring(0, end));
      if (!m.matches() && !m.hitEnd()) {
        return -1000 - (end - 1);
      }
    }
    if (!HOUSE.matcher(text).matches()) {
      return -1000 - text.length();
    }
    World next = w.twin();
    Matcher m = STATEMENT.matcher(text);
    int many = 0;
    while (m.find()) {
      if (!tell(next, m.group())) {
        return -2000 - m.start();
      }
      many++;
    }
    w = next;
    return many;
  }

  private static boolean tell(World next, String statement) {
    String body = statement.substring(1, statement.length() - 1);
    String[] parts = body.split(",");
    int first = Integer.parseInt(parts[0]);
    int second = parts.length > 1 ? Integer.parseInt(parts[1]) : 0;
    int high = first / 10;
    int low = first % 10;
    switch (statement.charAt(0)) {
      case 's': {
        Sort s = new Sort();
        s.seconds = first;
        s.worth = second;
        next.sorts.add(s);
        return isIn(first, 1, 60) && isIn(second, 1, 99) && next.sorts.size() <= 5;
      }
      case 'l':
        next.lanes.add(new Lane(first));
        return first <= 31 && next.lanes.size() <= 6;
      case 'a':
        if (high > 3 || low >= next.sorts.size() || second > 25) {
          return false;
        }
        next.sorts.get(low).come[high] = second;
        return true;
      default:
        if (high < 1 || high > 3 || low >= next.lanes.size() || second > 31) {
          return false;
        }
        next.lanes.get(low).changes.put(high, second);
        return true;
    }
  }

  int sort(int sort, int what) {
    if (!isSort(sort)) {
      return no(-1);
    }
    if (!isIn(what, 0, 5)) {
      return no(-2);
    }
    Sort s = w.sorts.get(sort);
    return what == 0 ? s.seconds : what == 1 ? s.worth : s.come[what - 2];
  }

  int lane(int lane, int quarter) {
    return isLane(lane) && isIn(quarter, 0, 3) ? w.lanes.get(lane).at(quarter) : no(-1);
  }

  int word(int lane, int v) {
    if (!isLane(lane)) {
      return no(-1);
    }
    if (!isIn(v, 0, 31)) {
      return no(v < 0 ? -4 : -6);
    }
    int was = w.lanes.get(lane).base;
    w.lanes.get(lane).base = v;
    return was;
  }

  int set(int what, int v) {
    if (!isIn(what, 0, 7)) {
      return no(-2);
    }
    if (!isIn(v, LEAST[what], MOST[what])) {
      return no(v < LEAST[what] ? -4 : -6);
    }
    int was = w.set[what];
    w.set[what] = v;
    return was;
  }

  int come(int quarter, int sort, int n) {
    if (!isSort(sort) || !isIn(quarter, 0, 3)) {
      return no(-1);
    }
    if (!isIn(n, 0, 25)) {
      return no(n < 0 ? -4 : -6);
    }
    int was = w.sorts.get(sort).come[quarter];
    w.sorts.get(sort).come[quarter] = n;
    return was;
  }

  private static boolean has(int word, int sort) {
    return (word & (1 << sort)) != 0;
  }

  private static int load(Deque<Car> line, int second) {
    int all = 0;
    for (Car c : line) {
      all += c.begun ? Math.max(0, c.done - second) : c.need;
    }
    return all;
  }

  private static int choose(World w, List<Deque<Car>> lines, int sort, int second) {
    int quarter = Math.min(3, second / 900);
    List<Integer> open = new ArrayList<>();
    for (int l = 0; l < w.lanes.size(); l++) {
      Lane lane = w.lanes.get(l);
      boolean shut = quarter > 0 && lane.at(quarter) != lane.at(quarter - 1) && second < quarter * 900 + w.set[6];
      if (has(lane.at(quarter), sort) && lines.get(l).size() < w.set[5] && !shut) {
        open.add(l);
      }
    }
    if (open.isEmpty()) {
      return -1;
    }
    int rule = w.set[4];
    if (rule == 3) {
      return open.get(0);
    }
    if (rule == 4) {
      return open.get(open.size() - 1);
    }
    if (rule == 1) {
      int fewest = open.stream().mapToInt(l -> Integer.bitCount(w.lanes.get(l).at(quarter))).min().getAsInt();
      open.removeIf(l -> Integer.bitCount(w.lanes.get(l).at(quarter)) != fewest);
    }
    int best = open.get(0);
    for (int l : open) {
      int mine = rule == 2 ? load(lines.get(l), second) : lines.get(l).size();
      int its = rule == 2 ? load(lines.get(best), second) : lines.get(best).size();
      if (mine < its) {
        best = l;
      }
    }
    return best;
  }

  static Report day(World w) {
    Report r = new Report();
    List<Deque<Car>> lines = new ArrayList<>();
    int[] lastSort = {-1, -1, -1, -1, -1, -1};
    for (int l = 0; l < w.lanes.size(); l++) {
      lines.add(new ArrayDeque<>());
    }
    int meter = 0;
    for (int second = 0; second <= 7199; second++) {
      int quarter = Math.min(3, second / 900);
      for (int s = 0; s < w.sorts.size() && second < 3600; s++) {
        Sort sort = w.sorts.get(s);
        for (int k = 0; k < sort.come[quarter]; k++) {
          if (quarter * 900 + k * 900 / sort.come[quarter] != second) {
            continue;
          }
          Car c = new Car();
          c.sort = s;
          c.came = second;
          c.need = sort.told[quarter] > 0 ? sort.told[quarter] : sort.seconds;
          r.cars.add(c);
          meter += Math.max(0, w.set[2] - 8 * w.set[7]);
          boolean strays = meter >= 100;
          if (strays) {
            meter -= 100;
          }
          int l = choose(w, lines, s, second);
          if (l < 0) {
            c.lost = true;
            continue;
          }
          int beside = (l + 1) % w.lanes.size();
          if (strays && w.lanes.size() > 1 && lines.get(beside).size() < w.set[5]) {
            l = beside;
            c.strayed = true;
            r.strayed++;
          }
          lines.get(l).addLast(c);
        }
      }
      for (int l = 0; l < w.lanes.size(); l++) {
        Deque<Car> line = lines.get(l);
        Car first = line.peekFirst();
        if (first != null && first.begun && first.done <= second && (r.last < 0 || second - r.last >= w.set[1])) {
          first.left = second;
          first.gone = true;
          r.last = second;
          r.passed[l]++;
          line.removeFirst();
        }
        first = line.peekFirst();
        if (first != null && !first.begun) {
          first.begun = true;
          first.served = second;
          first.done = second + first.need;
          if (lastSort[l] >= 0 && lastSort[l] != first.sort) {
            first.done += w.set[0];
          }
          if (first.strayed && !has(w.lanes.get(l).at(quarter), first.sort)) {
            first.done += w.set[3];
          }
          lastSort[l] = first.sort;
        }
        r.most[l] = Math.max(r.most[l], line.size());
      }
    }
    return r;
  }

  static int cost(World w) {
    Report r = day(w);
    int all = 0;
    for (int s = 0; s < w.sorts.size(); s++) {
      all += r.waited(s) * w.sorts.get(s).worth + 1000 * r.lost(s);
    }
    return all;
  }

  int cost() {
    return cost(w);
  }

  int waited(int sort) {
    return isSort(sort) ? day(w).waited(sort) : no(-1);
  }

  int served(int sort) {
    return isSort(sort) ? day(w).gone(sort) : no(-1);
  }

  int lost(int sort) {
    return isSort(sort) ? day(w).lost(sort) : no(-1);
  }

  int strayed() {
    return day(w).strayed;
  }

  int longest(int lane) {
    return isLane(lane) ? day(w).most[lane] : no(-1);
  }

  int passed(int lane) {
    return isLane(lane) ? day(w).passed[lane] : no(-1);
  }

  int last() {
    return day(w).last;
  }

  int mean(int sort, int part) {
    if (!isSort(sort)) {
      return no(-1);
    }
    if (!isIn(part, 0, 1)) {
      return no(-2);
    }
    Report r = day(w);
    int above = r.waited(sort);
    int below = Math.max(1, r.kept(sort));
    for (int d = below; d > 1; d--) {
      if (above % d == 0 && below % d == 0) {
        above /= d;
        below /= d;
      }
    }
    return part == 0 ? above : below;
  }

  int bestWord() {
    int least = cost(w);
    int answer = -9;
    for (int told = 0; told < 100 * w.lanes.size(); told++) {
      if (told % 100 <= 31) {
        World t = w.twin();
        t.lanes.set(told / 100, new Lane(told % 100));
        int c = cost(t);
        if (c < least) {
          least = c;
          answer = told;
        }
      }
    }
    return answer;
  }

  int fewest(int most) {
    if (w.lanes.isEmpty()) {
      return no(-3);
    }
    if (most < 0) {
      return no(-4);
    }
    int answer = -9;
    for (int n = w.lanes.size(); n >= 1; n--) {
      World t = w.twin();
      t.lanes = new ArrayList<>(t.lanes.subList(0, n));
      if (cost(t) <= most) {
        answer = n;
      }
    }
    return answer;
  }

  int edge() {
    World alone = w.twin();
    World now = w.twin();
    for (Lane l : alone.lanes) {
      l.base = Integer.lowestOneBit(l.base);
      l.changes.replaceAll((q, v) -> Integer.lowestOneBit(v));
    }
    for (int s = 0; s <= 60; s++) {
      now.set[0] = s;
      alone.set[0] = s;
      if (cost(now) > cost(alone)) {
        return s;
      }
    }
    return -9;
  }

  private int bestSetting(int what) {
    int best = 0;
    int least = Integer.MAX_VALUE;
    for (int v = 0; v <= MOST[what]; v++) {
      World t = w.twin();
      t.set[what] = v;
      int c = cost(t);
      if (c < least) {
        least = c;
        best = v;
      }
    }
    return best;
  }

  int signs() {
    return bestSetting(7);
  }

  int bestRule() {
    return bestSetting(4);
  }

  int buys(int a, int b, int hundredths) {
    if (!isSort(a) || !isSort(b) || a == b) {
      return 1000000000 - no(-1);
    }
    if (!isIn(hundredths, 0, 100)) {
      return 1000000000 - no(hundredths < 0 ? -4 : -6);
    }
    World t = w.twin();
    for (int q = 0; q < 4; q++) {
      int go = t.sorts.get(a).come[q] * hundredths / 100;
      t.sorts.get(a).come[q] -= go;
      t.sorts.get(b).come[q] += go;
    }
    return cost(w) - cost(t);
  }

  int fails(int sort, int quarter, int seconds) {
    if (!isSort(sort) || !isIn(quarter, 0, 3)) {
      return 1000000000 - no(-1);
    }
    if (!isIn(seconds, 1, 99)) {
      return 1000000000 - no(seconds < 1 ? -4 : -6);
    }
    World t = w.twin();
    t.sorts.get(sort).told[quarter] = seconds;
    return cost(t) - cost(w);
  }

  private int weave(List<Integer> order) {
    int all = 0;
    for (int i = 1; i < order.size(); i++) {
      int a = w.lanes.get(order.get(i - 1)).base;
      int b = w.lanes.get(order.get(i)).base;
      for (int s = 0; s < 5; s++) {
        all += has(a, s) != has(b, s) ? 1 : 0;
      }
    }
    return all;
  }

  int weave() {
    List<Integer> order = new ArrayList<>();
    for (int l = 0; l < w.lanes.size(); l++) {
      order.add(l);
    }
    return weave(order);
  }

  private void orders(List<Integer> begun, List<List<Integer>> all) {
    if (begun.size() == w.lanes.size()) {
      all.add(new ArrayList<>(begun));
      return;
    }
    for (int l = 0; l < w.lanes.size(); l++) {
      if (!begun.contains(l)) {
        begun.add(l);
        orders(begun, all);
        begun.remove(begun.size() - 1);
      }
    }
  }

  int order(int i) {
    if (i < -1) {
      return no(-4);
    }
    List<List<Integer>> all = new ArrayList<>();
    orders(new ArrayList<>(), all);
    List<Integer> best = all.get(0);
    for (List<Integer> o : all) {
      if (weave(o) < weave(best)) {
        best = o;
      }
    }
    return i == -1 ? weave(best) : i < best.size() ? best.get(i) : -9;
  }

  int rests(int sort) {
    if (!isSort(sort)) {
      return no(-1);
    }
    int many = w.sorts.size();
    int[] at = new int[many];
    for (int s = 0; s < many; s++) {
      at[s] = -9;
      for (int l = w.lanes.size() - 1; l >= 0; l--) {
        at[s] = has(w.lanes.get(l).base, s) ? l : at[s];
      }
    }
    for (int round = 0; round < 20; round++) {
      for (int s = 0; s < many; s++) {
        int best = -9;
        int least = 0;
        for (int l = 0; l < w.lanes.size(); l++) {
          if (has(w.lanes.get(l).base, s)) {
            int sum = 0;
            for (int o = 0; o < many; o++) {
              int there = o == s ? l : at[o];
              sum += there == l ? w.sorts.get(o).come[0] * w.sorts.get(o).seconds : 0;
            }
            if (best < 0 || sum < least) {
              best = l;
              least = sum;
            }
          }
        }
        at[s] = best;
      }
    }
    return at[sort];
  }

  int row(int v) {
    if (v < 0) {
      return no(-4);
    }
    if (v > 32767 || row.size() == 5) {
      return no(-6);
    }
    row.add(v);
    return row.size();
  }

  int judge() {
    List<Integer> told = new ArrayList<>(row);
    row.clear();
    Report r = day(w);
    List<Integer> due = new ArrayList<>();
    for (int s = 0; s < w.sorts.size(); s++) {
      due.add(r.kept(s) == 0 ? 0 : r.waited(s) / r.kept(s));
    }
    for (int i = 0; ; i++) {
      if (i == told.size() && i == due.size()) {
        return -9;
      }
      if (i == told.size() || i == due.size() || !told.get(i).equals(due.get(i))) {
        return i;
      }
    }
  }

  int image() {
    kept = w.twin();
    return w.lanes.size();
  }

  int on() {
    if (kept == null) {
      return no(-3);
    }
    w = kept.twin();
    return w.lanes.size();
  }

  int count(int what) {
    if (what == 0 || what == 1) {
      return what == 0 ? w.sorts.size() : w.lanes.size();
    }
    if (what == 2) {
      return day(w).cars.size();
    }
    if (what == 3) {
      return (int) day(w).cars.stream().filter(c -> c.gone).count();
    }
    if (what == 4) {
      return w.lanes.stream().mapToInt(l -> l.changes.size()).sum();
    }
    if (what == 5 || what == 6) {
      return what == 5 ? row.size() : tape.length();
    }
    return isIn(what, 11, 16) ? refused.getOrDefault(10 - what, 0) : -9;
  }
}
