/** For each promise: ordinary calls, the edges that the document names, and wrong ones; answers worked out by hand. */
final class PromiseTests {
  private static final int FAR = 1000000000;
  private final Tally t;

  private PromiseTests(Tally t) {
    this.t = t;
  }

  static void test(Tally t) {
    PromiseTests p = new PromiseTests(t);
    p.made();
    p.fed();
    p.housesThatStand();
    p.faultsOfForm();
    p.faultsOfSense();
    p.sortsTold();
    p.lanesTold();
    p.wordsSet();
    p.settingsSet();
    p.comersSet();
    p.comingByQuarters();
    p.queueOfOneLane();
    p.roadBehind();
    p.switching();
    p.straying();
    p.shutting();
    p.fullLanes();
    p.endOfDay();
    p.rules();
    p.means();
    p.bestWords();
    p.fewestLanes();
    p.edges();
    p.signsLooked();
    p.bestRules();
    p.bought();
    p.failing();
    p.woven();
    p.resting();
    p.judged();
    p.imaged();
    p.counted();
  }

  static int feed(WhichLane x, String text) {
    int all = 0;
    for (int at = 0; at < text.length(); at += 8) {
      int n = Math.min(8, text.length() - at);
      long bytes = 0;
      for (int i = 0; i < n; i++) {
        bytes |= (long) text.charAt(at + i) << (8 * i);
      }
      all = x.feed(n, bytes);
    }
    return all;
  }

  static int tell(WhichLane x, String text) {
    feed(x, text);
    return x.house();
  }

  static WhichLane houseOf(String... texts) {
    WhichLane x = new WhichLane();
    for (String text : texts) {
      if (tell(x, text) < 0) {
        throw new IllegalArgumentException(text);
      }
    }
    return x;
  }

  private void due(String what, long got, long want) {
    t.due(what, got, want);
  }

  private void made() {
    WhichLane x = new WhichLane();
    for (int what = 0; what <= 6; what++) {
      due("1 count", x.count(what), 0);
    }
    due("1 cost", x.cost(), 0);
    int[] first = {0, 0, 0, 30, 0, 40, 0, 0};
    for (int what = 0; what < 8; what++) {
      due("1 setting", x.set(what, first[what]), first[what]);
    }
    due("1 on", x.on(), -3);
  }

  private void fed() {
    WhichLane x = new WhichLane();
    due("2 none", x.feed(0, 5), -4);
    due("2 below none", x.feed(Integer.MIN_VALUE, 5), -4);
    due("2 nine", x.feed(9, 5), -6);
    due("2 many", x.feed(Integer.MAX_VALUE, 5), -6);
    due("2 one", x.feed(1, 'l'), 1);
    due("2 rest of the bytes does not come", x.feed(2, '1' | ';' << 8 | 'x' << 16), 3);
    due("2 house", x.house(), 1);
    for (int i = 1; i <= 7; i++) {
      due("2 eights", x.feed(8, -1), 8 * i);
    }
    due("2 more", x.feed(7, -1), 63);
    due("2 above 64", x.feed(2, -1), -6);
    due("2 none above 64", x.feed(0, -1), -4);
    due("2 to 64", x.feed(1, -1), 64);
    due("2 full", x.feed(1, -1), -6);
    due("2 bytes stay", x.count(6), 64);
    due("2 counted", x.count(14) * 100 + x.count(16), 304);
  }

  private void housesThatStand() {
    WhichLane x = new WhichLane();
    due("3 all letters", tell(x, "s07,9;l3;a00,25;q10,1;"), 4);
    due("3 tape is empty", x.count(6), 0);
    due("3 more comes", tell(x, "s60,99;l31;"), 2);
    due("3 sorts", x.count(0), 2);
    due("3 lanes", x.count(1), 2);
    due("3 told again", tell(x, "a00,1;q10,2;q10,3;"), 3);
    due("3 takes the place", x.sort(0, 2), 1);
    due("3 takes the word's place", x.lane(0, 1), 3);
    due("3 one change", x.count(4), 1);
    due("3 64 bytes", feed(x, "a00,00;a00,01;a00,02;a00,03;a00,04;a00,05;a00,06;a00,07;a00,08;"), 63);
    due("3 nine", x.house(), 9);
    due("3 the last stays", x.sort(0, 2), 8);
    due("3 greatest sort", tell(new WhichLane(), "s60,99;"), 1);
    due("3 least sort", tell(new WhichLane(), "s1,1;"), 1);
    due("3 five sorts, six lanes", tell(new WhichLane(), "s1,1;s1,1;s1,1;s1,1;s1,1;l1;l1;l1;l1;l1;l1;"), 11);
  }

  private void faultsOfForm() {
    String[] texts = {"", "x", "s", "s,", "s1", "s1;", "s123", "s1,", "s1,;", "s1,1", "s1,123", "s1,1;x", "l", "l;", "l111",
      "a", "a0", "a0,", "a000", "a00,", "a00;", "q", "qq", "q1,", "q10,1", "q10,111;", "s1,1;;", " l1;", "l1; ", "L1;",
      "l1;\u00ff", "l1;\u0000", "s\u00b1,1;", "l99;l1;a99,99;q09,99"};
    int[] places = {0, 0, 1, 1, 2, 2, 3, 3, 3, 4, 5, 5, 1, 1, 3,
      1, 2, 2, 3, 4, 3, 1, 1, 2, 5, 6, 5, 0, 3, 0,
      3, 3, 1, 20};
    for (int i = 0; i < texts.length; i++) {
      WhichLane x = new WhichLane();
      due("3 form " + texts[i], tell(x, texts[i]), -1000 - places[i]);
      due("3 tape is empty behind a fault", x.count(6), 0);
      due("3 nothing comes with a fault", x.count(0) + x.count(1), 0);
      for (int kind = 11; kind <= 16; kind++) {
        due("3 a fault is not counted", x.count(kind), 0);
      }
    }
    WhichLane full = new WhichLane();
    for (int i = 0; i < 8; i++) {
      full.feed(8, 0x3b31306c3b31306cL);
    }
    due("3 no room in 64 bytes", full.house(), -2024);
    for (int i = 0; i < 7; i++) {
      full.feed(8, 0x3b31306c3b31306cL);
    }
    full.feed(8, 0x3131306c3b31306cL);
    due("3 form goes ahead of sense", full.house(), -1063);
    for (int i = 0; i < 7; i++) {
      full.feed(8, 0x3b31306c3b31306cL);
    }
    full.feed(8, 0x31306c3b31306c3bL);
    due("3 in the last eight", full.house(), -1056);
    for (int i = 0; i < 7; i++) {
      full.feed(8, 0x3b31306c3b31306cL);
    }
    full.feed(8, 0x2c31733b3b31306cL >>> 32 << 32 | 0x3b31306cL);
    due("3 the end of 64 bytes", full.house(), -1060);
  }

  private void faultsOfSense() {
    String[] texts = {"s0,1;", "s61,1;", "s1,0;", "s00,1;", "l32;", "l99;", "a00,1;", "q10,1;", "s1,1;a01,1;", "s1,1;a40,1;",
      "s1,1;a00,26;", "l1;q00,1;", "l1;q40,1;", "l1;q11,1;", "l1;q10,32;", "a00,1;s1,1;", "q10,1;l1;", "s1,1;s99,1;l99;",
      "l1;l1;l1;l1;l1;l1;l1;", "s1,1;s1,1;s1,1;s1,1;s1,1;s1,1;", "s1,1;l1;a09,1;", "l1;q19,1;"};
    int[] places = {0, 0, 0, 0, 0, 0, 0, 0, 5, 5,
      5, 3, 3, 3, 3, 0, 0, 5,
      18, 25, 8, 3};
    for (int i = 0; i < texts.length; i++) {
      WhichLane x = new WhichLane();
      due("3 sense " + texts[i], tell(x, texts[i]), -2000 - places[i]);
      due("3 nothing comes", x.count(0) + x.count(1) + x.count(6), 0);
    }
    WhichLane x = houseOf("s1,1;l1;");
    due("3 behind what was there", tell(x, "a00,7;q10,0;s1,1;a01,3;a02,3;"), -2023);
    due("3 no comers", x.sort(0, 2), 0);
    due("3 no change", x.count(4), 0);
    due("3 no sort", x.count(0), 1);
    due("3 sort of an earlier text", tell(x, "a00,25;q30,31;"), 2);
  }

  private void sortsTold() {
    WhichLane x = houseOf("s7,9;s8,99;a00,1;a10,2;a20,3;a30,4;a01,25;");
    int[] want = {7, 9, 1, 2, 3, 4};
    for (int what = 0; what < 6; what++) {
      due("4 sort", x.sort(0, what), want[what]);
    }
    due("4 worth", x.sort(1, 1), 99);
    due("4 comers", x.sort(1, 2), 25);
    due("4 no comers", x.sort(1, 3), 0);
    due("4 nobody", x.sort(2, 0), -1);
    due("4 nobody below", x.sort(-1, 9), -1);
    due("4 other", x.sort(1, 6), -2);
    due("4 other below", x.sort(1, -1), -2);
    due("4 counted", x.count(11) * 10 + x.count(12), 22);
  }

  private void lanesTold() {
    WhichLane x = houseOf("l5;l31;q20,4;q31,0;");
    int[] first = {5, 5, 4, 4};
    int[] second = {31, 31, 31, 0};
    for (int q = 0; q < 4; q++) {
      due("5 lane 0", x.lane(0, q), first[q]);
      due("5 lane 1", x.lane(1, q), second[q]);
    }
    due("5 no lane", x.lane(2, 0), -1);
    due("5 no lane below", x.lane(-1, 0), -1);
    due("5 no quarter", x.lane(0, 4), -1);
    due("5 no quarter below", x.lane(0, -1), -1);
    due("5 counted", x.count(11), 4);
    tell(x, "q10,7;");
    due("5 a later change stays", x.lane(0, 1) * 100 + x.lane(0, 2), 704);
  }

  private void wordsSet() {
    WhichLane x = houseOf("l5;q20,4;");
    due("6 what it was", x.word(0, 31), 5);
    due("6 from quarter 0 on", x.lane(0, 1), 31);
    due("6 changes stay", x.lane(0, 3), 4);
    due("6 changes are kept", x.count(4), 1);
    due("6 to none", x.word(0, 0), 31);
    due("6 nobody", x.word(1, 99), -1);
    due("6 nobody below", x.word(-1, -1), -1);
    due("6 below", x.word(0, -1), -4);
    due("6 above", x.word(0, 32), -6);
    due("6 unchanged", x.lane(0, 0), 0);
    due("6 counted", x.count(11) * 100 + x.count(14) * 10 + x.count(16), 211);
    due("6 not that of quarter 1", houseOf("l5;q10,4;").word(0, 31), 5);
  }

  private void settingsSet() {
    int[] least = {0, 0, 0, 0, 0, 1, 0, 0};
    int[] most = {60, 20, 100, 99, 4, 60, 99, 9};
    int[] first = {0, 0, 0, 30, 0, 40, 0, 0};
    WhichLane x = new WhichLane();
    for (int what = 0; what < 8; what++) {
      due("7 greatest", x.set(what, most[what]), first[what]);
      due("7 above", x.set(what, most[what] + 1), -6);
      due("7 least", x.set(what, least[what]), most[what]);
      due("7 below", x.set(what, least[what] - 1), -4);
      due("7 unchanged", x.set(what, first[what]), least[what]);
    }
    due("7 other", x.set(8, 0), -2);
    due("7 other below", x.set(-1, 0), -2);
    due("7 counted", x.count(12) * 100 + x.count(14) + x.count(16), 216);
  }

  private void comersSet() {
    WhichLane x = houseOf("s1,1;s1,1;a01,9;");
    due("8 what it was", x.come(0, 1, 25), 9);
    due("8 what it is", x.sort(1, 2), 25);
    due("8 another quarter", x.come(3, 1, 4), 0);
    due("8 all", x.count(2), 29);
    due("8 none", x.come(0, 1, 0), 25);
    due("8 no quarter", x.come(4, 0, 1), -1);
    due("8 no quarter below", x.come(-1, 0, 1), -1);
    due("8 no sort", x.come(0, 2, -1), -1);
    due("8 no sort below", x.come(0, -1, 26), -1);
    due("8 below", x.come(0, 0, -1), -4);
    due("8 above", x.come(0, 0, 26), -6);
    due("8 unchanged", x.count(2), 4);
  }

  private void comingByQuarters() {
    WhichLane x = houseOf("s1,1;l1;a00,1;");
    due("16 at second 0", x.last(), 1);
    x.come(1, 0, 2);
    due("16 half a quarter", x.last(), 1351);
    x.come(2, 0, 7);
    due("16 cut", x.last(), 1800 + 771 + 1);
    x.come(3, 0, 25);
    due("16 the latest of all", x.last(), 2700 + 864 + 1);
    due("11 all", x.served(0), 35);
    due("9 nobody waits", x.cost(), 0);
  }

  private void queueOfOneLane() {
    WhichLane x = houseOf("s10,2;s20,3;l3;a00,1;a01,1;");
    due("9 worth counts", x.cost(), 30);
    due("10 first", x.waited(0), 0);
    due("10 second", x.waited(1), 10);
    due("11 served", x.served(0) * 10 + x.served(1), 11);
    due("14 both", x.longest(0), 2);
    due("15 both", x.passed(0), 2);
    due("16 last", x.last(), 30);
    x.come(0, 0, 0);
    due("14 one", x.longest(0), 1);
    x.come(0, 1, 0);
    due("14 none", x.longest(0), 0);
    due("15 none", x.passed(0), 0);
    due("16 none", x.last(), -9);
    due("10 nobody", x.waited(2), -1);
    due("10 nobody below", x.waited(-1), -1);
    due("11 nobody", x.served(2), -1);
    due("11 nobody below", x.served(-1), -1);
    due("12 nobody", x.lost(2), -1);
    due("12 nobody below", x.lost(-1), -1);
    due("14 nobody", x.longest(1), -1);
    due("14 nobody below", x.longest(-1), -1);
    due("15 nobody", x.passed(1), -1);
    due("15 nobody below", x.passed(-1), -1);
    due("32 counted", x.count(11), 10);
  }

  private void roadBehind() {
    WhichLane x = houseOf("s10,2;s20,3;l1;l2;a00,1;a01,1;");
    x.set(1, 10);
    due("9 gap went by", x.cost(), 0);
    x.set(1, 11);
    due("9 one second more", x.cost(), 3);
    due("10 till it leaves", x.waited(1), 1);
    due("16 late", x.last(), 21);
    WhichLane same = houseOf("s10,1;s10,1;l1;l2;a00,1;a01,1;");
    due("16 at once without gap", same.last(), 10);
    same.set(1, 1);
    due("16 by lanes", same.last(), 11);
    due("10 lane 0 first", same.waited(0) * 10 + same.waited(1), 1);
    WhichLane behind = houseOf("s10,1;s10,1;s1,1;l1;l6;a00,1;a01,1;a02,1;");
    behind.set(1, 20);
    due("10 one done stops those behind it", behind.waited(2), 30 + 50 - 31);
    due("14 it stands there", behind.longest(1), 2);
  }

  private void switching() {
    WhichLane x = houseOf("s10,1;s10,1;l3;a00,1;a01,1;");
    x.set(0, 7);
    due("16 another sort", x.last(), 27);
    due("10 switching is no waiting", x.waited(1), 10);
    x.come(0, 1, 0);
    due("16 none ahead", x.last(), 10);
    WhichLane far = houseOf("s10,1;s10,1;l3;a00,1;a31,1;");
    far.set(0, 60);
    due("16 the latest served, however long ago", far.last(), 2770);
    far.come(2, 1, 1);
    due("16 of its own sort", far.last(), 2710);
  }

  private void straying() {
    WhichLane x = houseOf("s10,1;l1;l0;a00,1;");
    x.set(2, 100);
    due("13 into the next", x.strayed(), 1);
    due("15 lane 1", x.passed(1), 1);
    due("16 extra", x.last(), 40);
    x.set(3, 0);
    due("16 no extra", x.last(), 10);
    x.set(3, 30);
    x.word(1, 1);
    due("16 its sort in the word", x.last(), 10);
    due("13 strayed all the same", x.strayed(), 1);
    x.word(0, 0);
    due("15 behind the last lane 0", x.passed(0), 1);
    due("16 extra in lane 0", x.last(), 40);
    x.set(2, 99);
    due("13 below 100", x.strayed(), 0);
    x.come(0, 0, 2);
    due("13 the second", x.strayed(), 1);
    x.set(2, 50);
    due("13 at 100", x.strayed(), 1);
    x.set(2, 34);
    x.come(0, 0, 3);
    due("13 the third", x.strayed(), 1);
    x.come(0, 0, 5);
    due("13 what is left counts", x.strayed(), 1);
    x.come(0, 0, 6);
    due("13 twice", x.strayed(), 2);
    x.set(7, 4);
    x.come(0, 0, 25);
    due("13 signs", x.strayed(), 0);
    x.come(1, 0, 25);
    due("13 by 2 each", x.strayed(), 1);
    x.set(7, 9);
    due("13 by 0 at least", x.strayed(), 0);
    WhichLane one = houseOf("s10,1;l1;a00,5;");
    one.set(2, 100);
    due("13 one lane alone", one.strayed(), 0);
    due("9 one lane alone", one.cost(), 0);
    WhichLane lost = houseOf("s10,1;s10,1;l1;l0;a01,1;a10,1;");
    lost.set(2, 50);
    due("13 the lost count too", lost.strayed(), 1);
    due("12 lost", lost.lost(1), 1);
    lost.set(2, 100);
    due("13 one lost has not strayed", lost.strayed(), 1);
    WhichLane never = houseOf("s1,1;l1;l0;a00,25;a10,25;a20,25;a30,25;");
    due("13 never without strays", never.strayed(), 0);
    never.set(2, 72);
    never.set(7, 9);
    due("13 never with as many signs", never.strayed(), 0);
    never.set(2, 73);
    due("13 one of a hundred", never.strayed(), 1);
    WhichLane later = houseOf("s60,1;l1;l0;a30,25;");
    later.set(2, 100);
    int without = later.last();
    tell(later, "q31,1;");
    due("16 words of quarter 3 go on", later.last(), 2700 + 60 * 25);
    due("16 extra behind quarter 3", without, 2700 + 90 * 25);
    WhichLane word = houseOf("s60,1;s50,1;l1;l2;a00,23;a01,1;", "q11,1;");
    word.set(2, 100);
    word.set(3, 99);
    due("13 all", word.strayed(), 24);
    due("16 the word as it is when served: ten before 900, thirteen behind", word.last(), 6 * 159 + 17 * 60);
  }

  private void shutting() {
    WhichLane x = houseOf("s1,1;s1,1;l1;q10,3;a10,25;");
    due("12 open", x.lost(0), 0);
    x.set(6, 1);
    due("12 at the beginning", x.lost(0), 1);
    x.set(6, 36);
    due("12 for 36 seconds", x.lost(0), 1);
    x.set(6, 37);
    due("12 for 37 seconds", x.lost(0), 2);
    x.set(6, 99);
    due("12 for 99 seconds", x.lost(0), 3);
    x.word(0, 3);
    due("12 to the same", x.lost(0), 0);
    x.word(0, 1);
    tell(x, "a10,0;a20,25;");
    due("12 not in a quarter behind", x.lost(0), 0);
    tell(x, "a20,0;a00,25;");
    due("12 not in quarter 0", x.lost(0), 0);
    tell(x, "l0;a00,0;a10,25;");
    x.set(2, 100);
    due("12 a stray is lost where none may choose", x.lost(0), 3);
    WhichLane into = houseOf("s1,1;l1;l3;q11,2;a10,1;");
    into.set(2, 100);
    into.set(6, 99);
    due("13 into one that is shut", into.strayed(), 1);
    due("15 into one that is shut", into.passed(1), 1);
    due("16 without its sort now", into.last(), 931);
  }

  private void fullLanes() {
    WhichLane x = houseOf("s60,7;l1;a00,25;");
    x.set(5, 1);
    due("12 every second one", x.lost(0), 12);
    due("9 a thousand each", x.cost(), 12000);
    due("10 the lost do not wait", x.waited(0), 0);
    due("11 the rest", x.served(0), 13);
    due("14 no more than one", x.longest(0), 1);
    x.set(5, 2);
    due("14 no more than two", x.longest(0), 2);
    WhichLane two = houseOf("s60,1;l1;l1;a00,1;");
    two.set(2, 99);
    two.set(5, 1);
    tell(two, "s60,1;a01,1;");
    two.word(1, 3);
    due("13 none into a full one", two.strayed(), 0);
    due("12 none lost", two.lost(0) + two.lost(1), 0);
    WhichLane second = houseOf("s36,1;l1;a00,25;");
    due("14 behind a second", second.longest(0), 1);
    second.set(5, 1);
    due("12 it is there till those that come have chosen", second.lost(0), 12);
  }

  private void endOfDay() {
    WhichLane x = houseOf("s60,1;l1;", "a00,25;a10,25;a20,25;a30,25;");
    x.set(5, 60);
    due("11 all of them", x.served(0), 100);
    due("16 in time", x.last(), 6000);
    due("10 24 more each", x.waited(0), 24 * 99 * 50);
    x.set(1, 20);
    due("11 a gap that is less", x.served(0), 100);
    cutInTheQueue();
    cutBeforeTheRoad();
    WhichLane third = houseOf("s60,1;s60,1;s60,1;s60,1;s60,1;l31;", "a30,25;a31,25;a32,25;a33,25;a34,25;");
    third.set(5, 60);
    due("11 none behind second 7199", third.count(3), 74);
    due("16 the latest", third.last(), 2700 + 60 * 74);
  }

  /** By turns of two sorts with SWITCH 60: car j is served at 2760 and 120 more for each behind it. */
  private void cutInTheQueue() {
    WhichLane x = houseOf("s60,3;s60,5;l3;a30,25;a31,25;");
    x.set(5, 60);
    x.set(0, 60);
    int[] waited = new int[2];
    int left = 0;
    for (int j = 0; j < 50; j++) {
      int start = j == 0 ? 2700 : 2760 + 120 * (j - 1);
      waited[j % 2] += Math.min(start, 7200) - (2700 + 36 * (j / 2));
      left += start + (j == 0 ? 60 : 120) < 7200 ? 1 : 0;
    }
    due("10 till the end, sort 0", x.waited(0), waited[0]);
    due("10 till the end, sort 1", x.waited(1), waited[1]);
    due("9 till the end", x.cost(), 3 * waited[0] + 5 * waited[1]);
    due("11 before the end", x.count(3), left);
    due("16 before the end", x.last(), 7080);
  }

  /** One leaves each 20 seconds from 1 on, always by a lane ahead of lane 5: of 401 that come 360 leave. */
  private void cutBeforeTheRoad() {
    WhichLane x = houseOf("s1,1;s1,1;s1,1;s1,1;s1,9;l15;l15;l15;l15;l15;l16;a04,1;",
        "a00,25;a10,25;a20,25;a30,25;a01,25;a11,25;a21,25;a31,25;",
        "a02,25;a12,25;a22,25;a32,25;a03,25;a13,25;a23,25;a33,25;");
    x.set(1, 20);
    x.set(5, 60);
    due("10 done at 1, not left at 7200", x.waited(4), 7199);
    due("11 not left", x.served(4), 0);
    due("12 not lost", x.lost(4), 0);
    due("14 it stands there", x.longest(5), 1);
    due("15 none", x.passed(5), 0);
    due("16 the last that the road takes", x.last(), 7181);
    due("32 all that left", x.count(3), 360);
    due("17 mean", x.mean(4, 0), 7199);
  }

  private void rules() {
    WhichLane x = houseOf("s50,1;s5,1;s5,1;s5,1;l31;l15;a00,1;a01,1;a02,1;a03,1;");
    int[] waitedByTwo = {50, 55, 5, 55, 55};
    int[] byLaneOne = {2, 4, 3, 0, 4};
    for (int rule = 0; rule < 5; rule++) {
      x.set(4, rule);
      due("9 rule " + rule, x.waited(2), waitedByTwo[rule]);
      due("15 rule " + rule, x.passed(1), byLaneOne[rule]);
    }
    x.word(0, 15);
    x.set(4, 1);
    due("15 apart with as many sorts", x.passed(1), 2);
    x.set(4, 4);
    x.set(5, 3);
    due("15 last that is open", x.passed(0), 1);
    x.set(4, 3);
    due("15 first that is open", x.passed(1), 1);
    WhichLane load = houseOf("s30,1;s4,1;s9,1;l1;l2;l3;a00,1;a01,1;a02,1;");
    load.word(0, 5);
    load.word(1, 6);
    load.set(4, 2);
    due("9 quick takes the least load", load.waited(2), 4);
    load.word(1, 7);
    load.word(0, 7);
    load.word(2, 0);
    due("9 of several the least", load.passed(0), 1);
    WhichLane all = houseOf("s40,1;s10,1;s30,1;s5,1;s60,1;l31;l31;", "a00,1;a01,1;a02,1;a03,1;a04,1;");
    all.set(4, 2);
    due("15 all that stand there, lane 0", all.passed(0), 2);
    due("15 all that stand there, lane 1", all.passed(1), 3);
    due("10 behind 10", all.waited(2), 10);
    due("10 behind 40 in lane 0", all.waited(3), 40);
    due("10 behind 40 in lane 1", all.waited(4), 40);
    WhichLane gone = houseOf("s60,1;s50,1;s1,1;l1;l7;a00,1;a01,1;a02,25;");
    gone.word(0, 5);
    gone.word(1, 6);
    gone.set(4, 2);
    due("15 those served are no load", gone.passed(0), 24);
    due("10 50 and 15", gone.waited(2), 65);
    WhichLane tie = houseOf("s9,1;l3;l5;l9;a00,1;");
    tie.set(4, 1);
    due("15 apart, of several the least", tie.passed(0), 1);
    WhichLane left = houseOf("s60,1;s20,1;l3;l3;a00,20;a01,1;");
    left.set(4, 2);
    due("15 what is left of one being served", left.passed(1), 11);
  }

  private void means() {
    WhichLane x = houseOf("s10,1;s5,1;l3;a00,1;a01,3;");
    due("17 above", x.mean(1, 0), 10);
    due("17 below", x.mean(1, 1), 3);
    x.come(0, 1, 5);
    due("17 least terms, above", x.mean(1, 0), 2);
    due("17 least terms, below", x.mean(1, 1), 1);
    x.come(0, 1, 1);
    due("17 one, above", x.mean(1, 0), 10);
    due("17 one, below", x.mean(1, 1), 1);
    due("17 nobody waits, above", x.mean(0, 0), 0);
    due("17 nobody waits, below", x.mean(0, 1), 1);
    x.come(0, 1, 0);
    due("17 of none, above", x.mean(1, 0), 0);
    due("17 of none, below", x.mean(1, 1), 1);
    due("17 nobody", x.mean(2, 5), -1);
    due("17 nobody below", x.mean(-1, 0), -1);
    due("17 other", x.mean(0, 2), -2);
    due("17 other below", x.mean(0, -1), -2);
    x.come(0, 1, 4);
    x.word(0, 1);
    due("17 all lost, below", x.mean(1, 1), 1);
    WhichLane some = houseOf("s60,1;l1;a00,25;");
    some.set(5, 2);
    due("17 by those not lost", some.mean(0, 0) * (25 - some.lost(0)), some.waited(0) * some.mean(0, 1));
  }

  private void bestWords() {
    due("18 no lanes", new WhichLane().bestWord(), -9);
    WhichLane x = houseOf("s10,1;l0;l0;a00,1;");
    due("18 least of several", x.bestWord(), 1);
    x.word(1, 2);
    due("18 lane 0 still", x.bestWord(), 1);
    x.word(1, 1);
    due("18 none is less", x.bestWord(), -9);
    due("18 in mind", x.lane(0, 0), 0);
    WhichLane two = houseOf("s10,1;s9,1;l1;l0;a00,1;a01,2;");
    due("18 lane 1 for sort 1", two.bestWord(), 102);
    WhichLane change = houseOf("s10,1;l1;q10,0;a10,3;");
    due("18 changes left out", change.bestWord(), 1);
    due("18 changes stay", change.count(4) * 100 + change.lane(0, 1), 100);
    change.set(6, 99);
    due("18 never shut", change.bestWord(), 1);
    due("18 none may pay", houseOf("s60,99;l1;a00,25;a10,25;").bestWord(), 0);
    due("18 all may pay", houseOf("s1,1;s1,1;s1,1;s1,1;s1,1;l0;", "a00,1;a01,1;a02,1;a03,1;a04,1;").bestWord(), 31);
  }

  private void fewestLanes() {
    WhichLane x = new WhichLane();
    due("19 no lanes", x.fewest(-1), -3);
    x = houseOf("s10,5;s10,1;l3;l3;a00,1;a01,1;");
    due("19 one does", x.fewest(10), 1);
    due("19 two do", x.fewest(9), 2);
    due("19 exactly", x.fewest(0), 2);
    due("19 below", x.fewest(-1), -4);
    x.word(0, 1);
    x.word(1, 1);
    due("19 none do", x.fewest(999), -9);
    due("19 lost with one as with two", x.fewest(1000), 1);
    due("19 in mind", x.count(1), 2);
    due("19 counted", x.count(14) * 10 + x.count(13), 10);
    x.word(1, 3);
    due("19 from the last on", x.fewest(999), 2);
    due("19 of one", houseOf("l0;").fewest(0), 1);
    WhichLane stray = houseOf("s40,1;l1;l0;a00,25;");
    stray.set(2, 100);
    due("19 one alone: nobody strays", stray.fewest(4 * 300), 1);
  }

  private void edges() {
    due("20 nothing", new WhichLane().edge(), -9);
    WhichLane x = houseOf("s10,1;s10,1;l3;l2;a00,1;a01,1;");
    due("20 as good", x.edge(), -9);
    x.set(4, 3);
    due("20 from 0 on", x.edge(), 0);
    due("20 in mind", x.lane(0, 0), 3);
    WhichLane last = houseOf("s10,1;s10,1;l3;l2;a00,1;a11,13;");
    last.set(4, 3);
    due("20 the second 969 comes one too early", last.edge(), 60);
    WhichLane none = houseOf("s10,1;s9,1;l3;l2;a00,1;a11,13;");
    none.set(4, 3);
    due("20 just in time", none.edge(), -9);
    WhichLane late = houseOf("s10,1;s10,1;l1;l3;a00,25;a01,25;");
    late.set(0, 33);
    int edge = late.edge();
    due("20 in mind", late.set(0, 5), 33);
    due("20 not by the setting", late.edge(), edge);
    WhichLane change = houseOf("s10,1;s10,1;l3;q10,3;l2;a10,1;a11,1;");
    change.set(4, 3);
    due("20 changes, too", change.edge(), 0);
    change.word(0, 1);
    change.set(6, 99);
    due("20 a change that is none alone shuts nothing", change.edge(), 0);
  }

  private void signsLooked() {
    due("21 nothing", new WhichLane().signs(), 0);
    WhichLane x = houseOf("s20,1;l1;l0;a00,25;");
    due("21 nobody strays", x.signs(), 0);
    x.set(2, 100);
    due("21 no two behind each other", x.signs(), 7);
    due("21 in mind", x.set(7, 9), 0);
    due("21 not by the setting", x.signs(), 7);
    WhichLane most = houseOf("s20,1;s20,1;l1;l2;a00,6;a01,6;");
    most.set(2, 80);
    due("21 twelve by 8 each", most.signs(), 9);
  }

  private void bestRules() {
    due("22 nothing", new WhichLane().bestRule(), 0);
    WhichLane x = houseOf("s50,1;s5,1;s5,1;s5,1;l31;l15;a00,1;a01,1;a02,1;a03,1;");
    due("22 quick", x.bestRule(), 2);
    x.set(4, 4);
    due("22 not by the setting", x.bestRule(), 2);
    due("22 in mind", x.set(4, 0), 4);
    x.come(0, 0, 0);
    x.come(0, 1, 0);
    due("22 of several the least", x.bestRule(), 0);
    due("22 last", houseOf("s9,1;s9,1;l3;l13;a00,1;a01,1;").bestRule(), 4);
  }

  private void bought() {
    WhichLane x = houseOf("s60,1;s1,2;l1;l2;a00,25;a01,9;");
    int now = x.cost();
    due("23 all", x.buys(0, 1, 100), now);
    due("23 none", x.buys(0, 1, 0), 0);
    due("23 cut", x.buys(0, 1, 3), 0);
    due("23 one", x.buys(0, 1, 4), now - houseOf("s60,1;l1;a00,24;").cost());
    due("23 in mind", x.cost(), now);
    due("23 worse", x.buys(1, 0, 50), now - costOf29());
    due("23 one twice", x.buys(1, 1, 5), FAR + 1);
    due("23 nobody", x.buys(2, 0, -1), FAR + 1);
    due("23 nobody, b", x.buys(0, 2, 101), FAR + 1);
    due("23 nobody below", x.buys(-1, 0, 5), FAR + 1);
    due("23 below", x.buys(0, 1, -1), FAR + 4);
    due("23 above", x.buys(0, 1, 101), FAR + 6);
    due("23 counted", x.count(11) * 100 + x.count(14) * 10 + x.count(16), 411);
  }

  /** 29 of 60 seconds at 900 by 29 each, cut: more than come() lets in, so worked out here. */
  private static int costOf29() {
    int all = 0;
    for (int k = 0; k < 29; k++) {
      all += 60 * k - k * 900 / 29;
    }
    return all;
  }

  private void failing() {
    WhichLane x = houseOf("s36,3;l1;a00,25;a20,25;");
    due("24 four seconds more", x.fails(0, 0, 40), 3 * 4 * 300);
    due("24 the other quarter", x.fails(0, 2, 37), 3 * 300);
    due("24 nobody comes", x.fails(0, 1, 99), 0);
    due("24 its own", x.fails(0, 0, 36), 0);
    due("24 less", x.fails(0, 0, 1), 0);
    due("24 in mind", x.cost(), 0);
    due("24 nobody", x.fails(1, 0, 0), FAR + 1);
    due("24 nobody below", x.fails(-1, 0, 5), FAR + 1);
    due("24 no quarter", x.fails(0, 4, 100), FAR + 1);
    due("24 no quarter below", x.fails(0, -1, 5), FAR + 1);
    due("24 below", x.fails(0, 0, 0), FAR + 4);
    due("24 above", x.fails(0, 0, 100), FAR + 6);
    due("24 counted", x.count(11) * 100 + x.count(14) * 10 + x.count(16), 411);
    WhichLane slow = houseOf("s60,1;l1;a00,25;");
    due("24 a gain", slow.fails(0, 0, 36), -24 * 300);
    WhichLane load = houseOf("s5,1;s6,1;s1,1;l1;l2;a00,1;a01,1;a02,1;");
    load.word(0, 5);
    load.word(1, 6);
    load.set(4, 2);
    due("24 load by told seconds", load.fails(0, 0, 7), 1);
  }

  private void woven() {
    WhichLane x = new WhichLane();
    due("25 no lanes", x.weave(), 0);
    due("26 no lanes", x.order(-1), 0);
    due("26 none such", x.order(0), -9);
    x = houseOf("s1,1;s1,1;l1;l2;l1;q10,31;q11,16;q12,8;");
    due("25 pairs", x.weave(), 4);
    due("26 weave", x.order(-1), 2);
    due("26 first", x.order(0), 0);
    due("26 second", x.order(1), 2);
    due("26 third", x.order(2), 1);
    due("26 none such", x.order(3), -9);
    due("26 none such far", x.order(Integer.MAX_VALUE), -9);
    due("26 below", x.order(-2), -4);
    due("25 as they are", x.weave(), 4);
    WhichLane six = houseOf("l31;l0;l30;l1;l28;l3;");
    due("25 six", six.weave(), 5 + 4 + 5 + 4 + 5);
    due("26 six", six.order(-1), 5 + 2);
    int[] got = new int[6];
    for (int i = 0; i < 6; i++) {
      got[i] = six.order(i);
    }
    due("26 six lanes' words", wordWeave(six, got), 7);
    due("26 from lane 0", got[0], 0);
    WhichLane middle = houseOf("l3;l1;l7;");
    due("26 another first", middle.order(0) * 100 + middle.order(1) * 10 + middle.order(2), 102);
    due("26 another first, weave", middle.order(-1), 2);
    due("25 one lane", houseOf("l31;").weave(), 0);
  }

  private static int wordWeave(WhichLane x, int[] order) {
    int all = 0;
    for (int i = 1; i < order.length; i++) {
      all += Integer.bitCount(x.lane(order[i - 1], 0) ^ x.lane(order[i], 0));
    }
    return all;
  }

  private void resting() {
    WhichLane x = houseOf("s1,1;s1,1;l3;l3;a00,10;a01,10;");
    due("27 goes", x.rests(0), 1);
    due("27 stays", x.rests(1), 0);
    x.word(1, 2);
    due("27 may not", x.rests(0), 0);
    due("27 goes instead", x.rests(1), 1);
    x.word(0, 0);
    due("27 none has it", x.rests(0), -9);
    due("27 nobody", x.rests(2), -1);
    due("27 nobody below", x.rests(-1), -1);
    WhichLane light = houseOf("s1,1;s9,1;s9,1;l7;l7;a00,1;a01,2;a02,3;");
    due("27 first", light.rests(0), 1);
    due("27 second", light.rests(1), 1);
    due("27 third", light.rests(2), 0);
    WhichLane long5 = houseOf("s3,1;s10,1;s9,1;s6,1;s11,1;l6;l27;l19;l15;", "a00,1;a01,1;a02,1;a03,1;a04,1;q10,0;q11,0;q12,0;q13,0;");
    int[] rests = {3, 2, 0, 3, 1};
    for (int sort = 0; sort < 5; sort++) {
      due("27 round by round", long5.rests(sort), rests[sort]);
    }
    WhichLane quarter = houseOf("s1,1;s1,1;l3;l3;a10,10;a11,10;");
    due("27 of quarter 0 alone", quarter.rests(0), 0);
  }

  private void judged() {
    WhichLane x = new WhichLane();
    due("29 nothing", x.judge(), -9);
    for (int i = 1; i <= 5; i++) {
      due("28 how many", x.row(32767), i);
    }
    due("28 no room", x.row(0), -6);
    due("28 below", x.row(-1), -4);
    due("29 too long", x.judge(), 0);
    due("28 above", x.row(32768), -6);
    due("29 none then", x.count(5), 0);
    x = houseOf("s10,1;s5,1;s7,1;l3;a00,1;a01,3;a02,2;");
    int[][] rows = {{0, 3, 0}, {0, 3}, {0}, {}, {0, 3, 0, 0}, {0, 4, 0}, {1}, {0, 2, 0, 0}, {0, 3, 1, 0, 0}};
    int[] want = {-9, 2, 1, 0, 3, 1, 0, 1, 2};
    for (int i = 0; i < rows.length; i++) {
      for (int wait : rows[i]) {
        x.row(wait);
      }
      due("28 held", x.count(5), rows[i].length);
      due("29 row " + i, x.judge(), want[i]);
      due("29 emptied", x.count(5), 0);
    }
    WhichLane one = houseOf("s10,1;s5,1;l3;a00,1;a01,1;");
    one.row(0);
    one.row(10);
    due("29 mean of one", one.judge(), -9);
  }

  private void imaged() {
    WhichLane x = new WhichLane();
    due("31 none", x.on(), -3);
    due("30 of nothing", x.image(), 0);
    tell(x, "s9,1;l1;q10,2;a00,3;");
    x.set(0, 9);
    due("30 one lane", x.image(), 1);
    tell(x, "s8,2;l2;q20,2;a01,7;a00,8;");
    x.set(0, 10);
    x.set(7, 9);
    x.word(0, 31);
    x.row(4);
    x.feed(3, 5);
    x.word(9, 9);
    due("31 one lane", x.on(), 1);
    due("31 sorts", x.count(0), 1);
    due("31 lanes", x.count(1), 1);
    due("31 word", x.lane(0, 0), 1);
    due("31 change", x.lane(0, 2), 2);
    due("31 changes", x.count(4), 1);
    due("31 comers", x.sort(0, 2), 3);
    due("31 setting", x.set(0, 1), 9);
    due("31 setting 7", x.set(7, 1), 0);
    due("31 the row stays", x.count(5), 1);
    due("31 the tape stays", x.count(6), 3);
    due("31 refusals stay", x.count(11) * 10 + x.count(13), 11);
    due("31 again", x.on(), 1);
    due("31 as then again", x.set(0, 1), 9);
    x.house();
    tell(x, "s7,7;l4;");
    due("31 a new sort has no comers", x.sort(1, 2), 0);
    due("31 a new lane has no changes", x.lane(1, 2), 4);
  }

  private void counted() {
    WhichLane x = houseOf("s60,1;s1,1;l1;l1;q10,1;q31,9;", "a00,25;a30,25;a01,4;");
    int[] want = {2, 2, 54, 50, 2, 0, 0, -9, -9, -9, -9, 0, 0, 0, 0, 0, 0, -9};
    for (int what = 0; what < want.length; what++) {
      due("32 count " + what, x.count(what), want[what]);
    }
    due("32 below", x.count(-1), -9);
    due("32 far", x.count(Integer.MIN_VALUE), -9);
    due("32 far above", x.count(Integer.MAX_VALUE), -9);
    x.sort(5, 5);
    x.set(8, 8);
    x.on();
    x.feed(0, 0);
    x.feed(9, 0);
    int[] refused = {1, 1, 1, 1, 0, 1};
    for (int kind = 0; kind < 6; kind++) {
      due("32 refusals", x.count(11 + kind), refused[kind]);
    }
  }
}
