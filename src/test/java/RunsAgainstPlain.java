/** Long runs of calls on WhichLane and on PlainLane, which must answer the same; the numbers come from a fixed sum. */
final class RunsAgainstPlain {
  private static final int RUNS = 200;
  private static final int CALLS = 250;
  private long seed;
  private WhichLane x;
  private PlainLane p;

  static void test(Tally t) {
    for (int run = 0; run < RUNS; run++) {
      new RunsAgainstPlain().oneRun(t, run);
    }
  }

  private int pick(int many) {
    seed = seed * 6364136223846793005L + 1442695040888963407L;
    return (int) ((seed >>> 33) % many);
  }

  private int around(int least, int most) {
    return pick(12) == 0 ? least - 2 + pick(most - least + 5) : least + pick(most - least + 1);
  }

  private void oneRun(Tally t, int run) {
    seed = 1000003L * run + 17;
    x = new WhichLane();
    p = new PlainLane();
    tell(t, run, text(true));
    tell(t, run, text(true));
    for (int call = 0; call < CALLS; call++) {
      oneCall(t, run);
    }
  }

  private void same(Tally t, int run, String call, int got, int want) {
    t.due("run " + run + " " + call, got, want);
  }

  private void tell(Tally t, int run, String text) {
    for (int at = 0; at < text.length(); ) {
      int n = Math.min(1 + pick(8), text.length() - at);
      long bytes = pick(2) == 0 ? 0 : -1L << (8 * n - 1) << 1;
      for (int i = 0; i < n; i++) {
        bytes |= (long) text.charAt(at + i) << (8 * i);
      }
      same(t, run, "feed " + text, x.feed(n, bytes), p.feed(n, bytes));
      at += n;
    }
    same(t, run, "house " + text, x.house(), p.house());
  }

  private String number(int least, int most) {
    int v = Math.max(0, around(least, most));
    return v < 10 && pick(4) == 0 ? "0" + v : "" + v;
  }

  private String text(boolean clean) {
    StringBuilder s = new StringBuilder();
    int sorts = p.count(0);
    int lanes = p.count(1);
    for (int n = 0; n < 14 && s.length() < 57; n++) {
      int kind = pick(8);
      if (clean ? sorts < 2 : kind == 0) {
        s.append('s').append(clean ? "" + (1 + pick(60)) : number(1, 60)).append(',').append(1 + pick(99));
        sorts++;
      } else if (clean ? lanes < 2 : kind == 1) {
        s.append('l').append(clean ? "" + (1 + pick(31)) : number(0, 31));
        lanes++;
      } else if (kind < 6) {
        s.append('a').append(pick(clean ? 4 : 5)).append(pick(sorts + (clean ? 0 : 1))).append(',').append(pick(26));
      } else {
        s.append('q').append(clean ? 1 + pick(3) : pick(5)).append(pick(lanes + (clean ? 0 : 1))).append(',').append(pick(32));
      }
      s.append(';');
    }
    if (!clean && pick(3) == 0) {
      s.setCharAt(pick(s.length()), "slaq,;0129 x\u00ff".charAt(pick(13)));
    }
    int most = Math.min(64, s.length());
    return s.substring(0, clean || pick(3) > 0 ? cutBehindStatement(s, most) : pick(most + 1));
  }

  private static int cutBehindStatement(StringBuilder s, int most) {
    return s.lastIndexOf(";", most - 1) + 1;
  }

  private void oneCall(Tally t, int run) {
    int a = around(0, Math.max(0, p.count(0) - 1));
    int b = around(0, Math.max(0, p.count(0) - 1));
    int l = around(0, Math.max(0, p.count(1) - 1));
    int q = around(0, 3);
    int v = around(0, 31);
    switch (pick(40)) {
      case 0: tell(t, run, text(false)); break;
      case 1: same(t, run, "sort", x.sort(a, q), p.sort(a, q)); break;
      case 2: same(t, run, "lane", x.lane(l, q), p.lane(l, q)); break;
      case 3: case 4: same(t, run, "word", x.word(l, v), p.word(l, v)); break;
      case 5: case 6: case 7: case 8: setOne(t, run); break;
      case 9: case 10: case 11: v = around(0, 25); same(t, run, "come", x.come(q, a, v), p.come(q, a, v)); break;
      case 12: case 13: same(t, run, "cost", x.cost(), p.cost()); break;
      case 14: same(t, run, "waited", x.waited(a), p.waited(a)); break;
      case 15: same(t, run, "served", x.served(a), p.served(a)); break;
      case 16: same(t, run, "lost", x.lost(a), p.lost(a)); break;
      case 17: same(t, run, "strayed", x.strayed(), p.strayed()); break;
      case 18: same(t, run, "longest", x.longest(l), p.longest(l)); break;
      case 19: same(t, run, "passed", x.passed(l), p.passed(l)); break;
      case 20: same(t, run, "last", x.last(), p.last()); break;
      case 21: v = around(0, 1); same(t, run, "mean", x.mean(a, v), p.mean(a, v)); break;
      case 22: if (pick(12) == 0) same(t, run, "bestWord", x.bestWord(), p.bestWord()); break;
      case 23: v = pick(9) == 0 ? -1 : Math.max(0, p.cost() - 2000 + pick(30000)); same(t, run, "fewest", x.fewest(v), p.fewest(v)); break;
      case 24: if (pick(6) == 0) same(t, run, "edge", x.edge(), p.edge()); break;
      case 25: same(t, run, "signs", x.signs(), p.signs()); break;
      case 26: same(t, run, "bestRule", x.bestRule(), p.bestRule()); break;
      case 27: v = around(0, 100); same(t, run, "buys", x.buys(a, b, v), p.buys(a, b, v)); break;
      case 28: case 29: v = around(1, 99); same(t, run, "fails", x.fails(a, q, v), p.fails(a, q, v)); break;
      case 30: same(t, run, "weave", x.weave(), p.weave()); break;
      case 31: v = around(-1, 6); same(t, run, "order", x.order(v), p.order(v)); break;
      case 32: same(t, run, "rests", x.rests(a), p.rests(a)); break;
      case 33: v = around(0, 32767); same(t, run, "row", x.row(v), p.row(v)); break;
      case 34: rowAndJudge(t, run); break;
      case 35: if (pick(4) == 0) same(t, run, "image", x.image(), p.image()); break;
      case 36: if (pick(4) == 0) same(t, run, "on", x.on(), p.on()); break;
      case 37: same(t, run, "feed", x.feed(v - 3, seed), p.feed(v - 3, seed)); same(t, run, "house", x.house(), p.house()); break;
      default: v = around(0, 17); same(t, run, "count " + v, x.count(v), p.count(v)); break;
    }
  }

  private void setOne(Tally t, int run) {
    int[] most = {60, 20, 100, 99, 4, 60, 99, 9};
    int what = around(0, 7);
    int v = what >= 0 && what < 8 ? around(0, pick(2) == 0 ? most[what] : Math.max(1, most[what] / 8)) : 0;
    same(t, run, "set " + what + " " + v, x.set(what, v), p.set(what, v));
  }

  private void rowAndJudge(Tally t, int run) {
    same(t, run, "judge", x.judge(), p.judge());
    int many = around(0, p.count(0));
    for (int s = 0; s < many; s++) {
      int due = s < p.count(0) ? p.mean(s, 0) / p.mean(s, 1) : 0;
      int told = pick(6) == 0 ? due + 1 : due;
      same(t, run, "row", x.row(told), p.row(told));
    }
    same(t, run, "judge", x.judge(), p.judge());
  }
}
