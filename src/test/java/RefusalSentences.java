import java.util.function.Supplier;
import java.util.function.ToIntFunction;

/** The term REFUSALS, each promise's refusals in their order, what they leave as it was, and promise 32. */
final class RefusalSentences extends SentenceTests {
  private static final int MOST = Integer.MAX_VALUE;
  private static final int LEAST = Integer.MIN_VALUE;
  /** No sort, lane or quarter has one of these numbers, in any house of 2 sorts and 3 lanes. */
  private static final int[] NOBODY = {-1, -2, LEAST, MOST, 64};

  RefusalSentences(Tally t, Document document) {
    super(t, document);
  }

  @Override
  void sentences() {
    refusals();
    refusalsOfFarNumbers();
    notRefused();
    feed();
    sort();
    lane();
    word();
    set();
    come();
    ofSorts();
    ofLanes();
    mean();
    fewest();
    buys();
    fails();
    order();
    rests();
    row();
    on();
    counts();
    countsThatAreFull();
    countsOfRefusals();
    countOfOthers();
  }

  /** 2 sorts, 3 lanes, changes, comers, settings, an image of another house, a ROW of two waits, a TAPE of a statement. */
  private static WhichLane full() {
    WhichLane x = house("s9,3;l1;a00,2;");
    x.set(SWITCH, 5);
    x.image();
    tell(x, "s20,2;l2;l3;q12,2;q31,0;a01,7;a31,25;");
    with(x, GAP, 3, STRAYS, 10, EXTRA, 4, RULE, 2, LONGEST, 20, SHUT, 6, SIGN, 1);
    x.row(x.mean(0, 0) / x.mean(0, 1));
    x.row(x.mean(1, 0) / x.mean(1, 1));
    feed(x, "l7;");
    return x;
  }

  /** Twice refused: each is counted, and all else is as with a twin that was not asked. */
  private void refused(Supplier<WhichLane> made, String what, int answer, int number, ToIntFunction<WhichLane> call) {
    WhichLane x = made.get();
    WhichLane twin = made.get();
    due(what, call.applyAsInt(x), answer);
    due(what + ", again", call.applyAsInt(x), answer);
    for (int kind = 1; kind <= 6; kind++) {
      due(what + ": refusals -" + kind, x.count(10 + kind), twin.count(10 + kind) + (kind == -number ? 2 : 0));
    }
    same(what + ": all is as it was", state(x), state(twin));
    due(what + ": THE TAPE is as it was", x.house(), twin.house());
    due(what + ": the ROW is as it was", x.judge(), twin.judge());
    same(what + ": what comes of them is the same", state(x), state(twin));
    due(what + ": THE IMAGE is as it was", x.on(), twin.on());
    same(what + ": what it shows is the same", state(x), state(twin));
  }

  private void refused(String what, int number, ToIntFunction<WhichLane> call) {
    refused(RefusalSentences::full, what, number, number, call);
  }

  private void refusedFar(String what, int number, ToIntFunction<WhichLane> call) {
    refused(RefusalSentences::full, what, FAR - number, number, call);
  }

  private void refusals() {
    about(0, "REFUSALS (the call answers the number, the first that fits in the order in which it tells them; nothing changes but how "
        + "many there were):");
    refused("of an empty object, NOBODY ahead of BELOW", WhichLane::new, -1, x -> x.word(0, -1));
    refused("NOBODY ahead of OTHER", -1, x -> x.sort(2, 6));
    refused("OTHER ahead of BELOW", -2, x -> x.set(-1, -1));
    refused("STATE ahead of BELOW", WhichLane::new, -3, x -> x.fewest(-1));
    refused("NOBODY ahead of ROOM", -1, x -> x.come(4, 0, 26));
    about(0, "-1 NOBODY: no such SORT, LANE, QUARTER.", "-2 OTHER: what.", "-3 STATE: it is not as it must be.",
        "-4 BELOW: a number below the least.", "-6 ROOM: a number above the greatest, no room.");
    refused("no such SORT", -1, x -> x.lost(2));
    refused("no such LANE", -1, x -> x.passed(3));
    refused("no such QUARTER", -1, x -> x.lane(0, 4));
    refused("what", -2, x -> x.mean(0, 2));
    refused("it is not as it must be", WhichLane::new, -3, WhichLane::on);
    refused("below the least", -4, x -> x.set(LONGEST, 0));
    refused("above the greatest", -6, x -> x.set(LONGEST, 61));
    refused("no room", RefusalSentences::fullTape, -6, x -> x.feed(1, 0));
  }

  private void refused(String what, Supplier<WhichLane> made, int number, ToIntFunction<WhichLane> call) {
    refused(made, what, number, number, call);
  }

  private void refusalsOfFarNumbers() {
    about(0, "Of buys(), fails() REFUSALS are 1000000000 less them (-1 as 1000000001).");
    due("buys -1", full().buys(2, 0, 0), 1000000001);
    due("buys -4", full().buys(0, 1, -1), 1000000004);
    due("buys -6", full().buys(0, 1, 101), 1000000006);
    due("fails -1", full().fails(2, 0, 1), 1000000001);
    due("fails -4", full().fails(0, 0, 0), 1000000004);
    due("fails -6", full().fails(0, 0, 100), 1000000006);
  }

  private void notRefused() {
    about(0, "nothing changes but how many there were");
    WhichLane x = full();
    due("a FAULT is none", x.house() * 10 + x.house(), 10 - 1000);
    x.judge();
    int nines = new WhichLane().last() + new WhichLane().bestWord() + new WhichLane().edge() + new WhichLane().order(0);
    due("-9 is an answer", nines, -36);
    WhichLane y = house("s1,1;s1,1;l1;");
    due("last", y.last(), -9);
    due("bestWord", y.bestWord(), -9);
    due("fewest", y.fewest(0), 1);
    due("edge", y.edge(), -9);
    due("order", y.order(1), -9);
    due("rests", y.rests(1), -9);
    due("judge", y.judge(), 0);
    due("count", y.count(7), -9);
    same("none of them is a refusal", refusals(y), "0,0,0,0,0,0");
    same("nor a FAULT", refusals(x), "0,0,0,0,0,0");
  }

  /** 64 bytes on THE TAPE. */
  private static WhichLane fullTape() {
    WhichLane x = new WhichLane();
    feed(x, "s1,1;" + "a00,25;".repeat(8) + "l1;");
    return x;
  }

  private void feed() {
    about(2, "-4; -6 (n; above 64).");
    for (int n : new int[] {0, -1, -8, LEAST}) {
      refused("n " + n, -4, x -> x.feed(n, 'l'));
      refused("n " + n + " on a full TAPE", RefusalSentences::fullTape, -4, x -> x.feed(n, 'l'));
    }
    for (int n : new int[] {9, 10, 64, 65, MOST}) {
      refused("n " + n, -6, x -> x.feed(n, 'l'));
    }
    for (int n : new int[] {1, 2, 8, 9, MOST}) {
      refused("n " + n + " above 64", RefusalSentences::fullTape, -6, x -> x.feed(n, ';'));
    }
  }

  private void sort() {
    about(4, "-1; -2.");
    for (int none : NOBODY) {
      refused("SORT " + none, -1, x -> x.sort(none, 0));
      refused("SORT " + none + ", and no such what", -1, x -> x.sort(none, 6));
    }
    refused("SORT 2", -1, x -> x.sort(2, 0));
    refused("no SORTS", WhichLane::new, -1, x -> x.sort(0, 0));
    for (int what : new int[] {6, 7, MOST, -1, LEAST}) {
      refused("what " + what, -2, x -> x.sort(1, what));
    }
  }

  private void lane() {
    about(5, "-1 either.");
    for (int none : NOBODY) {
      refused("LANE " + none, -1, x -> x.lane(none, 0));
      refused("QUARTER " + none, -1, x -> x.lane(2, none));
      refused("either " + none, -1, x -> x.lane(none, none));
    }
    refused("LANE 3", -1, x -> x.lane(3, 0));
    refused("QUARTER 4", -1, x -> x.lane(2, 4));
    refused("no LANES", WhichLane::new, -1, x -> x.lane(0, 0));
  }

  private void word() {
    about(6, "-1; -4; -6 31.");
    for (int none : NOBODY) {
      refused("LANE " + none, -1, x -> x.word(none, 5));
      refused("LANE " + none + ", below", -1, x -> x.word(none, -1));
      refused("LANE " + none + ", above", -1, x -> x.word(none, 32));
    }
    refused("LANE 3", -1, x -> x.word(3, 5));
    for (int v : new int[] {-1, -31, LEAST}) {
      refused("v " + v, -4, x -> x.word(2, v));
    }
    for (int v : new int[] {32, 33, 64, MOST}) {
      refused("v " + v, -6, x -> x.word(2, v));
    }
  }

  private void set() {
    about(7, "-2; -4; -6.");
    int[] least = {0, 0, 0, 0, 0, 1, 0, 0};
    int[] most = {60, 20, 100, 99, 4, 60, 99, 9};
    for (int i = 0; i <= 7; i++) {
      int what = i;
      refused(what + " below", -4, x -> x.set(what, least[what] - 1));
      refused(what + " far below", -4, x -> x.set(what, LEAST));
      refused(what + " above", -6, x -> x.set(what, most[what] + 1));
      refused(what + " far above", -6, x -> x.set(what, MOST));
    }
    for (int what : new int[] {8, 9, MOST, -1, LEAST}) {
      refused("what " + what, -2, x -> x.set(what, 1));
      refused("what " + what + ", below", -2, x -> x.set(what, LEAST));
      refused("what " + what + ", above", -2, x -> x.set(what, MOST));
    }
  }

  private void come() {
    about(8, "-1 either; -4; -6 25.");
    for (int none : NOBODY) {
      refused("QUARTER " + none, -1, x -> x.come(none, 1, 5));
      refused("SORT " + none, -1, x -> x.come(3, none, 5));
      refused("either " + none + ", below", -1, x -> x.come(none, none, -1));
      refused("SORT " + none + ", above", -1, x -> x.come(3, none, 26));
    }
    refused("QUARTER 4", -1, x -> x.come(4, 1, 5));
    refused("SORT 2", -1, x -> x.come(3, 2, 5));
    for (int n : new int[] {-1, -25, LEAST}) {
      refused("n " + n, -4, x -> x.come(3, 1, n));
    }
    for (int n : new int[] {26, 27, 256, MOST}) {
      refused("n " + n, -6, x -> x.come(3, 1, n));
    }
  }

  private void ofSorts() {
    for (int none : NOBODY) {
      about(10, "-1.");
      refused("SORT " + none, -1, x -> x.waited(none));
      refused("SORT 2", -1, x -> x.waited(2));
      about(11, "-1.");
      refused("SORT " + none, -1, x -> x.served(none));
      refused("SORT 2", -1, x -> x.served(2));
      about(12, "-1.");
      refused("SORT " + none, -1, x -> x.lost(none));
      refused("SORT 2", -1, x -> x.lost(2));
    }
  }

  private void ofLanes() {
    for (int none : NOBODY) {
      about(14, "-1.");
      refused("LANE " + none, -1, x -> x.longest(none));
      refused("LANE 3", -1, x -> x.longest(3));
      about(15, "-1.");
      refused("LANE " + none, -1, x -> x.passed(none));
      refused("LANE 3", -1, x -> x.passed(3));
    }
  }

  private void mean() {
    about(17, "-1; -2.");
    for (int none : NOBODY) {
      refused("SORT " + none, -1, x -> x.mean(none, 0));
      refused("SORT " + none + ", and no such part", -1, x -> x.mean(none, 2));
    }
    refused("SORT 2", -1, x -> x.mean(2, 1));
    for (int part : new int[] {2, 3, MOST, -1, LEAST}) {
      refused("part " + part, -2, x -> x.mean(1, part));
    }
  }

  private void fewest() {
    about(19, "-3 no LANES; -4.");
    for (int most : new int[] {0, 5, MOST, -1, LEAST}) {
      refused("no LANES, " + most, WhichLane::new, -3, x -> x.fewest(most));
      refused("SORTS and no LANES, " + most, () -> house("s1,1;a00,3;"), -3, x -> x.fewest(most));
    }
    refused("-1", -4, x -> x.fewest(-1));
    refused("far below", -4, x -> x.fewest(LEAST));
  }

  private void buys() {
    about(23, "Refused as told: -1 (one twice, too); -4; -6 100.");
    for (int none : NOBODY) {
      refusedFar("a " + none, -1, x -> x.buys(none, 1, 50));
      refusedFar("b " + none, -1, x -> x.buys(1, none, 50));
      refusedFar("a " + none + ", below", -1, x -> x.buys(none, 1, -1));
      refusedFar("b " + none + ", above", -1, x -> x.buys(1, none, 101));
      refusedFar("none twice " + none, -1, x -> x.buys(none, none, 50));
    }
    refusedFar("a 2", -1, x -> x.buys(2, 0, 50));
    refusedFar("b 2", -1, x -> x.buys(0, 2, 50));
    refusedFar("one twice", -1, x -> x.buys(1, 1, 50));
    refusedFar("one twice, below", -1, x -> x.buys(0, 0, -1));
    refusedFar("one twice, above", -1, x -> x.buys(0, 0, 101));
    for (int hundredths : new int[] {-1, -100, LEAST}) {
      refusedFar("hundredths " + hundredths, -4, x -> x.buys(0, 1, hundredths));
    }
    for (int hundredths : new int[] {101, 200, MOST}) {
      refusedFar("hundredths " + hundredths, -6, x -> x.buys(0, 1, hundredths));
    }
  }

  private void fails() {
    about(24, "Refused as told: -1 either; -4 below 1; -6 99.");
    for (int none : NOBODY) {
      refusedFar("SORT " + none, -1, x -> x.fails(none, 0, 5));
      refusedFar("QUARTER " + none, -1, x -> x.fails(1, none, 5));
      refusedFar("SORT " + none + ", below", -1, x -> x.fails(none, 0, 0));
      refusedFar("QUARTER " + none + ", above", -1, x -> x.fails(1, none, 100));
    }
    refusedFar("SORT 2", -1, x -> x.fails(2, 0, 5));
    refusedFar("QUARTER 4", -1, x -> x.fails(1, 4, 5));
    for (int seconds : new int[] {0, -1, LEAST}) {
      refusedFar("seconds " + seconds, -4, x -> x.fails(1, 3, seconds));
    }
    for (int seconds : new int[] {100, 101, MOST}) {
      refusedFar("seconds " + seconds, -6, x -> x.fails(1, 3, seconds));
    }
  }

  private void order() {
    about(26, "-4.");
    for (int i : new int[] {-2, -3, LEAST}) {
      refused("i " + i, -4, x -> x.order(i));
      refused("no LANES, i " + i, WhichLane::new, -4, x -> x.order(i));
    }
  }

  private void rests() {
    about(27, "-1.");
    for (int none : NOBODY) {
      refused("SORT " + none, -1, x -> x.rests(none));
    }
    refused("SORT 2", -1, x -> x.rests(2));
    refused("no SORTS", WhichLane::new, -1, x -> x.rests(0));
  }

  /** Five waits in the ROW. */
  private static WhichLane fullRow() {
    WhichLane x = house("s10,1;s10,1;s10,1;s10,1;s10,1;l31;", "a00,1;a01,1;a02,1;a03,1;a04,1;");
    for (int wait = 0; wait <= 40; wait += 10) {
      x.row(wait);
    }
    return x;
  }

  private void row() {
    about(28, "-4; -6 (32767; 5, too).");
    for (int v : new int[] {-1, -32768, LEAST}) {
      refused("v " + v, -4, x -> x.row(v));
      refused("v " + v + " on a full ROW", RefusalSentences::fullRow, -4, x -> x.row(v));
    }
    for (int v : new int[] {32768, 65536, MOST}) {
      refused("v " + v, -6, x -> x.row(v));
    }
    for (int v : new int[] {0, 50, 32767, 32768}) {
      refused("a sixth, " + v, RefusalSentences::fullRow, -6, x -> x.row(v));
    }
  }

  private void on() {
    about(31, "-3 there is none.");
    refused("a new object", WhichLane::new, -3, WhichLane::on);
    refused("a house", () -> house("s1,1;l1;a00,3;"), -3, WhichLane::on);
    WhichLane x = new WhichLane();
    x.on();
    x.image();
    due("there is one of nothing", x.on(), 0);
    same("counted once", refusals(x), "0,0,1,0,0,0");
  }

  private void counts() {
    about(32, "0 SORTS, 1 LANES, 2 all that come in a DAY, 3 all that left, 4 changes of WORDS told, 5 waits in the ROW, 6 bytes on THE "
        + "TAPE,");
    WhichLane x = house("s60,1;s1,1;l1;l1;l1;q10,1;q31,9;", "a00,25;a30,25;a01,4;");
    x.row(1);
    x.row(1);
    x.row(1);
    x.feed(5, 0);
    int[] want = {2, 3, 54, 50, 2, 3, 5};
    for (int what = 0; what <= 6; what++) {
      due("" + what, x.count(what), want[what]);
    }
    x.word(0, 0);
    due("word() is no change told", x.count(4), 2);
    x.set(LONGEST, 1);
    x.word(1, 0);
    x.word(2, 0);
    x.come(3, 0, 0);
    x.come(1, 0, 1);
    due("all that come, LOST ones, too", x.count(2), 30);
    due("by the change in QUARTER 1", x.count(3), 1);
    WhichLane six = house("l1;l1;l1;l1;l1;l1;q10,1;q20,1;q30,1;q11,1;q21,1;q31,1;", "q12,1;q22,1;q32,1;q13,1;q23,1;q33,1;",
        "q14,1;q24,1;q34,1;q15,1;q25,1;q35,1;");
    due("three changes of each of six", six.count(4), 18);
    tell(six, "q35,2;");
    due("told again it is none more", six.count(4), 18);
  }

  private void countsThatAreFull() {
    about(32, "2 all that come in a DAY, 3 all that left,");
    WhichLane x = house("s1,1;s1,1;s1,1;s1,1;s1,1;l31;");
    for (int quarter = 0; quarter <= 3; quarter++) {
      for (int sort = 0; sort < 5; sort++) {
        x.come(quarter, sort, 25);
      }
    }
    due("500 come", x.count(2), 500);
    due("500 left", x.count(3), 500);
    due("five SORTS", x.count(0), 5);
    x.word(0, 0);
    due("500 come, LOST ones, too", x.count(2), 500);
    due("none left", x.count(3), 0);
    WhichLane end = with(house("s60,1;s60,1;s60,1;l7;a30,1;a31,25;a32,25;"), SWITCH, 60, LONGEST, 60);
    due("51 come", end.count(2), 51);
    due("37 left", end.count(3), 37);
    WhichLane empty = new WhichLane();
    due("nothing", empty.count(0) + empty.count(1) + empty.count(2) + empty.count(3) + empty.count(4), 0);
    due("nothing in the ROW, nothing on THE TAPE", empty.count(5) + empty.count(6), 0);
    due("64 bytes", fullTape().count(6), 64);
    due("five waits", fullRow().count(5), 5);
  }

  private void countsOfRefusals() {
    about(32, "11 .. 16 REFUSALS -1 .. -6.");
    WhichLane x = new WhichLane();
    for (int n = 1; n <= 3; n++) {
      x.waited(0);
      x.fails(0, 0, 1);
    }
    for (int n = 1; n <= 5; n++) {
      x.set(8, 0);
    }
    for (int n = 1; n <= 2; n++) {
      x.on();
      x.fewest(0);
    }
    for (int n = 1; n <= 7; n++) {
      x.feed(0, 0);
    }
    for (int n = 1; n <= 9; n++) {
      x.row(32768);
    }
    int[] want = {6, 5, 4, 7, 0, 9};
    for (int kind = 1; kind <= 6; kind++) {
      due("-" + kind, x.count(10 + kind), want[kind - 1]);
    }
    x.image();
    x.on();
    due("they stay behind ON", x.count(11), 6);
  }

  private void countOfOthers() {
    about(32, "-9 for another what.");
    WhichLane x = full();
    for (int what : new int[] {-1, -11, LEAST, 7, 8, 9, 10, 17, 18, 100, MOST}) {
      due("" + what, x.count(what), -9);
    }
    same("none of them is refused", refusals(x), "0,0,0,0,0,0");
  }
}
