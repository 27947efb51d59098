/** The terms of what is asked in mind, of WEAVE, ORDER, RESTS and the ROW, and the promises that ask for them. */
final class MindSentences extends SentenceTests {
  private static final String FIVE_COME = "a00,1;a01,1;a02,1;a03,1;a04,1;";

  MindSentences(Tally t, Document document) {
    super(t, document);
  }

  @Override
  void sentences() {
    inMind();
    bestWord();
    bestWordAtItsEnds();
    fewest();
    edge();
    edgeByChanges();
    signs();
    bestRule();
    buys();
    buysByQuarters();
    fails();
    failsByTheirComing();
    weave();
    order();
    orderOfSix();
    rests();
    restsByRounds();
    restsNowhere();
    row();
    judged();
    judgedByLength();
  }

  private void inMind() {
    about(0, "In mind, of a DAY:");
    WhichLane x = with(house("s30,3;s20,2;l1;l3;l6;q11,1;q22,0;a00,25;a01,25;a11,9;"), SWITCH, 5, STRAYS, 40, SIGN, 2);
    x.image();
    x.row(7);
    feed(x, "l9;");
    String before = state(x);
    x.bestWord();
    x.fewest(0);
    x.edge();
    x.signs();
    x.bestRule();
    x.buys(0, 1, 50);
    x.fails(0, 0, 99);
    x.order(2);
    x.rests(1);
    x.weave();
    same("nothing is changed", state(x), before);
    due("nor the IMAGE", x.on(), 3);
    same("which is as then", state(x), before);
    same("nothing is refused", refusals(x), "0,0,0,0,0,0");
  }

  private void bestWord() {
    about(0, "BEST WORD: of all LANES and WORDS (0 .. 31, from SECOND 0 on, its changes left out) the one with least COST, less "
        + "than now, told as 100 times the LANE and the WORD, of several the least; -9.");
    WhichLane x = house("s10,1;l0;l0;a00,1;");
    due("the least LANE, the least WORD", x.bestWord(), 1);
    x.word(0, 2);
    x.word(1, 1);
    due("none is less than now", x.bestWord(), -9);
    WhichLane two = house("s10,1;s9,1;l1;l0;a00,1;a01,2;");
    due("100 and 2", two.bestWord(), 102);
    WhichLane change = with(house("s10,1;l1;q10,0;q20,3;a10,3;a20,3;"), SHUT, 99);
    due("its changes left out: the WORD it has now is less than now", change.bestWord(), 1);
    WhichLane later = house("s10,1;l0;q10,1;a00,1;a10,1;");
    due("from SECOND 0 on", later.bestWord(), 1);
    WhichLane other = house("s10,1;s10,1;s10,1;l1;l0;q10,4;", "a00,1;a01,1;a11,1;a12,1;");
    due("changes of other LANES are not left out", other.bestWord(), 102);
  }

  private void bestWordAtItsEnds() {
    about(18, "BEST WORD; -9.");
    due("no SORTS, no LANES", new WhichLane().bestWord(), -9);
    due("no LANES", house("s1,1;a00,25;").bestWord(), -9);
    due("no SORTS", house("l0;").bestWord(), -9);
    due("nobody comes", house("s1,1;l0;").bestWord(), -9);
    due("COST is 0", house("s1,1;l1;a00,25;").bestWord(), -9);
    due("one LOST in place of one LOST is as much as now", house("s60,99;s60,99;l1;a00,1;a01,1;").bestWord(), -9);
    due("a wait of 999 is less", house("s27,37;s1,37;l1;a00,1;a01,1;").bestWord(), 3);
    due("a wait of 1000 is as much", house("s20,1;s1,50;l1;a00,1;a01,1;").bestWord(), -9);
    due("LANE 0, WORD 0: 50 LOST are less than 24 more seconds each",
        house("s60,99;l1;a00,25;a10,25;").bestWord(), 0);
    due("WORD 31", house("s1,1;s1,1;s1,1;s1,1;s1,1;l0;", FIVE_COME).bestWord(), 31);
    WhichLane six = house("s60,1;s1,1;s1,1;s1,1;s60,1;l1;l1;l2;l4;l8;l0;", "a00,25;a01,1;a02,1;a03,1;a04,1;");
    due("LANE 5: in each of the others SORT 4 costs waiting", six.bestWord(), 516);
    six.word(5, 16);
    due("and nothing is less than nothing", six.bestWord(), -9);
  }

  private void fewest() {
    about(0, "FEWEST: the least number of LANES (from the last on left out; 1 at least) with which COST is no more than told; -9.");
    WhichLane x = house("s1,1;s1,1;s1,1;s1,1;s1,1;l0;l1;l2;l4;l8;l16;", FIVE_COME);
    int[] most = {0, 999, 1000, 1001, 1999, 2000, 3999, 4000, 4999, 5000, Integer.MAX_VALUE};
    int[] want = {6, 6, 5, 5, 5, 4, 3, 2, 2, 1, 1};
    for (int i = 0; i < most.length; i++) {
      due("no more than " + most[i], x.fewest(most[i]), want[i]);
    }
    about(19, "FEWEST; -9.");
    x.word(0, 1);
    x.word(1, 0);
    due("the last is left out, not the first", x.fewest(4000), 1);
    x.word(5, 0);
    due("one is LOST with all", x.fewest(999), -9);
    due("as with five", x.fewest(1000), 5);
    due("one LANE does", house("l0;").fewest(0), 1);
    due("one LANE does not", house("s1,1;l0;a00,1;").fewest(999), -9);
    WhichLane stray = with(house("s10,1;l1;l0;a00,25;"), STRAYS, 100, EXTRA, 99);
    due("in one LANE alone nobody strays", stray.fewest(0), 1);
    WhichLane more = with(house("s36,1;l1;l1;a00,25;"), RULE, LAST, STRAYS, 100);
    due("the least, not the most", more.fewest(0), 1);
  }

  private void edge() {
    about(0, "EDGE: the least SWITCH (0 .. 60) with which COST is more than with it, if of each WORD told (changes, too) the least "
        + "SORT alone were left; -9.");
    WhichLane x = with(house("s10,1;s10,1;l3;l2;a00,1;a01,1;"), RULE, FIRST);
    due("without SWITCH, too", x.edge(), 0);
    x.set(RULE, LAST);
    due("as much is not more", x.edge(), -9);
    with(x, RULE, FIRST, SWITCH, 60);
    due("from 0 on, whatever SWITCH is", x.edge(), 0);
    WhichLane sixty = with(house("s10,1;s10,1;l3;l2;a00,1;a11,13;"), RULE, FIRST, SWITCH, 3);
    due("done at 970 and the next comes at 969", sixty.edge(), 60);
    due("in mind", sixty.set(SWITCH, 3), 3);
    due("done at 969", with(house("s10,1;s9,1;l3;l2;a00,1;a11,13;"), RULE, FIRST).edge(), -9);
    due("done at 937 and the next comes at 936", with(house("s10,1;s10,1;l3;l2;a00,1;a11,25;"), RULE, FIRST).edge(), 27);
    WhichLane alone = house("s10,1;s10,1;l1;q10,2;a00,1;a11,25;");
    due("with that SWITCH it is as much, too", alone.edge(), -9);
    alone.set(SWITCH, 60);
    due("as it is with another one told", alone.edge(), -9);
    WhichLane least = with(house("s10,1;s10,1;l2;l3;a00,1;a01,1;"), RULE, LAST);
    due("the least SORT is left, not the greatest", least.edge(), 0);
    due("where the least has LANES alone, the others are LOST", house("s10,1;s10,1;l3;l3;a00,1;a01,1;").edge(), -9);
  }

  private void edgeByChanges() {
    about(20, "EDGE; -9.");
    due("no SORTS, no LANES", new WhichLane().edge(), -9);
    due("no LANES", house("s1,1;a00,5;").edge(), -9);
    due("nobody comes", house("s1,1;l1;").edge(), -9);
    due("WORDS without SORTS", house("s1,1;l0;a00,5;").edge(), -9);
    WhichLane change = with(house("s10,1;s10,1;l3;q10,3;l2;a10,1;a11,1;"), RULE, FIRST);
    due("of changes, too", change.edge(), 0);
    WhichLane kept = with(house("s10,1;s10,1;l1;q10,3;l2;a10,1;a11,1;"), RULE, FIRST, SHUT, 99);
    due("3 left at 1 is no change from 1: not SHUT", kept.edge(), 0);
    WhichLane last = with(house("s10,1;s10,1;l0;l0;l0;l0;l2;l1;q35,3;a30,1;a31,1;"), RULE, LAST);
    due("of the last change of the last LANE", last.edge(), 0);
    due("of a change that has no SORT none is left", house("s1,1;l1;q10,0;a10,5;").edge(), -9);
  }

  private void signs() {
    about(0, "SIGNS: the SIGN (0 .. 9) with least COST, of several the least.");
    WhichLane x = house("s20,1;l1;l0;a00,25;");
    due("of all the least", x.signs(), 0);
    with(x, STRAYS, 100, SIGN, 9);
    due("44 each: no two that stray come behind each other", x.signs(), 7);
    due("in mind", x.set(SIGN, 9), 9);
    WhichLane most = with(house("s20,1;s20,1;l1;l2;a00,6;a01,6;"), STRAYS, 80);
    due("twelve by 8 each are 96, by 16 each one strays", most.signs(), 9);
    most.set(STRAYS, 8);
    due("twelve by 8 each", most.signs(), 0);
    most.set(STRAYS, 9);
    due("twelve by 9 each, by 1 each", most.signs(), 1);
    about(21, "SIGNS.");
    due("no SORTS, no LANES", new WhichLane().signs(), 0);
    due("no LANES", with(house("s1,1;a00,5;"), STRAYS, 100).signs(), 0);
    due("nobody comes", with(house("s1,1;l1;l1;"), STRAYS, 100).signs(), 0);
  }

  private void bestRule() {
    about(0, "BEST RULE likewise.");
    WhichLane quick = house("s50,1;s5,1;s5,1;s5,1;l31;l15;a00,1;a01,1;a02,1;a03,1;");
    due("QUICK", quick.bestRule(), 2);
    WhichLane apart = with(house("s9,1;s9,1;l3;l1;a00,1;a01,1;"), RULE, 2);
    due("APART and LAST: the least", apart.bestRule(), 1);
    due("in mind", apart.set(RULE, 2), 2);
    WhichLane first = house("s1,1;s60,1;s1,99;l11;l6;a00,1;a01,1;a02,1;");
    due("FIRST", first.bestRule(), 3);
    WhichLane last = house("s9,1;s9,1;l3;l13;a00,1;a01,1;");
    due("LAST", last.bestRule(), 4);
    WhichLane mixed = house("s60,1;s1,1;s1,1;l7;l7;a00,1;a01,1;");
    due("MIXED, APART and QUICK: the least", mixed.bestRule(), 0);
    about(22, "BEST RULE.");
    due("no SORTS, no LANES", new WhichLane().bestRule(), 0);
    due("no LANES", house("s1,1;a00,5;").bestRule(), 0);
    due("nobody comes", with(house("s1,1;l1;l1;"), RULE, 4).bestRule(), 0);
  }

  private void buys() {
    about(0, "BUYS: of each QUARTER of comers of SORT a told hundredths (cut) come as SORT b: COST now less COST then.");
    WhichLane x = house("s1,1;s1,1;l2;a00,25;");
    int[] hundredths = {0, 1, 3, 4, 7, 8, 50, 96, 99, 100};
    int[] buyers = {0, 0, 0, 1, 1, 2, 12, 24, 24, 25};
    for (int i = 0; i < hundredths.length; i++) {
      due(hundredths[i] + " of 25 that are LOST", x.buys(0, 1, hundredths[i]), 1000 * buyers[i]);
    }
    due("in mind", x.cost(), 25000);
    due("nobody buys", x.buys(1, 0, 100), 0);
    x.come(0, 1, 25);
    due("all of them are LOST then", x.buys(1, 0, 100), -25000);
    due("fifty", x.buys(0, 1, 100), 25000);
  }

  private void buysByQuarters() {
    about(23, "BUYS.");
    WhichLane x = house("s1,1;s1,1;l2;a00,1;a10,1;a20,2;a30,3;");
    due("of 1, 1, 2 and 3: none, none, 1 and 1", x.buys(0, 1, 50), 2000);
    due("none, none, none and none", x.buys(0, 1, 33), 0);
    due("none, none, none and 1", x.buys(0, 1, 34), 1000);
    due("none, none, 1 and 2", x.buys(0, 1, 99), 3000);
    due("all", x.buys(0, 1, 100), 7000);
    WhichLane y = house("s60,1;s1,2;l1;l2;a00,25;a01,9;");
    due("one less comes as SORT 0, the 24 each 37 seconds", y.buys(0, 1, 4), 24 * 300 - costOf24());
    due("SORT 1 with its SECONDS and its WORTH", house("s1,1;s37,2;l2;l0;a00,25;").buys(0, 1, 100), 25000 - 2 * 300);
  }

  /** 60 seconds by one LANE, 24 that come each 37.5 seconds, cut. */
  private static int costOf24() {
    int all = 0;
    for (int k = 0; k < 24; k++) {
      all += 60 * k - k * 75 / 2;
    }
    return all;
  }

  private void fails() {
    about(0, "FAILS in a QUARTER: those of a SORT that come in it need told seconds in place of their own: COST then less COST now.");
    WhichLane x = house("s36,3;l1;a00,25;a20,25;");
    int[] seconds = {1, 35, 36, 37, 40};
    int[] more = {0, 0, 0, 1, 4};
    for (int i = 0; i < seconds.length; i++) {
      due(seconds[i] + " in QUARTER 0", x.fails(0, 0, seconds[i]), 3 * 300 * more[i]);
    }
    due("greatest", house("s36,3;l1;a00,25;").fails(0, 0, 99), 3 * 300 * 63);
    due("nobody comes in QUARTER 1", x.fails(0, 1, 99), 0);
    due("37 in QUARTER 2", x.fails(0, 2, 37), 3 * 300);
    due("nobody comes in QUARTER 3", x.fails(0, 3, 99), 0);
    due("in mind", x.cost(), 0);
    WhichLane slow = house("s60,1;l1;a30,25;");
    due("less than their own", slow.fails(0, 3, 1), -24 * 300);
  }

  private void failsByTheirComing() {
    about(24, "FAILS.");
    WhichLane x = house("s36,1;l1;a00,25;a10,25;");
    due("by when they come: 25 of 40 till 1000, and each of the next waits 100", x.fails(0, 0, 40), 4 * 300 + 25 * 100);
    WhichLane y = house("s36,1;s36,2;s36,3;s36,4;s36,5;l1;l2;l4;l8;l16;");
    for (int sort = 0; sort < 5; sort++) {
      for (int quarter = 0; quarter < 4; quarter++) {
        for (int other = 0; other < 5; other++) {
          y.come(quarter, other, 25);
        }
        due("of SORT " + sort + " in QUARTER " + quarter + " alone", y.fails(sort, quarter, 37), 300 * (sort + 1));
        due("and not behind it", y.buys(0, 1, 0), 0);
        for (int other = 0; other < 5; other++) {
          y.come(quarter, other, 0);
        }
        due("nobody comes in QUARTER " + quarter, y.fails(sort, quarter, 37), 0);
      }
    }
    due("LOST all the same", house("s36,1;l0;a00,25;").fails(0, 0, 1), 0);
  }

  private void weave() {
    about(0, "WEAVE: of LANES in their order: how many SORTS stand in just one of the WORDS (of SECOND 0) of LANES beside each "
        + "other, all such pairs together.");
    WhichLane x = house("s1,1;s1,1;s1,1;l1;l6;l7;l2;q10,0;q21,0;");
    due("3, 1 and 2", x.weave(), 6);
    x.word(3, 7);
    due("3, 1 and none", x.weave(), 4);
    about(25, "WEAVE.");
    due("no LANES", new WhichLane().weave(), 0);
    due("one LANE", house("l31;").weave(), 0);
    due("two alike", house("l31;l31;").weave(), 0);
    due("five SORTS in five pairs",
        house("s1,1;s1,1;s1,1;s1,1;s1,1;l31;l0;l31;l0;l31;l0;").weave(), 25);
  }

  private void ordered(String text, int weave, int... lanes) {
    WhichLane x = house(text);
    due(text + " WEAVE", x.order(-1), weave);
    for (int i = 0; i < lanes.length; i++) {
      due(text + " " + i, x.order(i), lanes[i]);
    }
    due(text + " the one behind the last", x.order(lanes.length), -9);
    due(text + " far behind", x.order(Integer.MAX_VALUE), -9);
  }

  private void order() {
    about(0, "ORDER: of all orders of LANES the one with least WEAVE, of several the first by numbers.");
    ordered("s1,1;s1,1;l1;l2;l1;q10,2;q12,2;", 2, 0, 2, 1);
    ordered("s1,1;s1,1;s1,1;l3;l1;l7;", 2, 1, 0, 2);
    ordered("s1,1;l1;l1;l1;l1;", 0, 0, 1, 2, 3);
    ordered("s1,1;l0;l1;", 1, 0, 1);
    ordered("s1,1;l1;l0;", 1, 0, 1);
    ordered("s1,1;s1,1;l3;l0;l1;l2;", 3, 0, 2, 1, 3);
  }

  private void orderOfSix() {
    about(26, "ORDER: its WEAVE (i -1), its i-th LANE; -9 none such.");
    ordered("", 0);
    ordered("l31;", 0, 0);
    ordered("s1,1;s1,1;s1,1;s1,1;s1,1;l15;l7;l3;l1;l0;l31;", 5, 4, 3, 2, 1, 0, 5);
    ordered("s1,1;s1,1;s1,1;s1,1;s1,1;l31;l31;l31;l31;l31;l31;", 0, 0, 1, 2, 3, 4, 5);
    ordered("s1,1;s1,1;s1,1;s1,1;s1,1;l0;l31;l0;l31;l0;l31;", 5, 0, 2, 4, 1, 3, 5);
  }

  private void resting(String text, int... lanes) {
    WhichLane x = house(text);
    for (int sort = 0; sort < lanes.length; sort++) {
      due(text + " SORT " + sort, x.rests(sort), lanes[sort]);
    }
  }

  private void rests() {
    about(0, "RESTS: TOLD: each SORT has one LANE: at first the least whose WORD has it; then by SORTS each goes to the LANE whose "
        + "WORD has it with the least sum (of all SORTS there, itself counted there: how many come in QUARTER 0 times SECONDS), "
        + "of several the least; again till none goes (20 rounds at most): where each is then;");
    resting("s1,1;s1,1;l3;l3;a00,10;a01,10;", 1, 0);
    resting("s1,1;s1,1;l1;l3;a00,10;a01,10;", 0, 1);
    resting("s1,1;s1,1;l3;l3;a10,10;a11,10;", 0, 0);
    resting("s2,1;s9,1;l3;l3;a00,9;a01,2;", 1, 0);
    resting("s1,1;s1,1;l3;l3;a01,10;", 1, 0);
    resting("s1,1;s1,1;s1,1;l7;l7;a00,1;a01,2;a02,3;", 1, 1, 0);
    resting("s1,1;s1,1;s1,1;l7;l7;l7;a00,1;a01,2;a02,3;", 1, 2, 0);
    resting("s1,1;s1,1;l3;l0;l3;q11,3;a00,1;a01,1;", 2, 0);
    resting("s1,1;s1,1;s1,1;l1;l7;l5;a00,4;a01,4;a02,4;", 0, 1, 2);
    resting("s1,1;s1,1;l0;l3;l3;q10,3;a00,1;a01,1;", 2, 1);
  }

  /** SORT 0 goes to LANE 1, SORT 1 behind it, and SORT 0 back; then five rounds of 770, 52, 130, 874 and 690. */
  private void restsByRounds() {
    about(0, "again till none goes (20 rounds at most): where each is then;");
    resting("s1,1;s1,1;s1,1;l7;l3;a00,1;a01,3;a02,2;", 0, 1, 0);
    resting("s1,1;s1,1;s1,1;l7;l7;a00,1;a01,2;a02,2;", 0, 1, 0);
    WhichLane x = house("s55,1;s52,1;s10,1;s46,1;s30,1;l31;l27;l1;l14;", "a00,14;a01,1;a02,13;a03,19;a04,23;");
    int[] lanes = {2, 0, 0, 3, 1};
    for (int sort = 0; sort < 5; sort++) {
      due("SORT " + sort, x.rests(sort), lanes[sort]);
    }
    for (int sort = 4; sort >= 0; sort--) {
      due("SORT " + sort + " again", x.rests(sort), lanes[sort]);
    }
  }

  private void restsNowhere() {
    about(0, "-9 none has it.");
    resting("s1,1;s1,1;l1;a00,1;a01,1;", 0, -9);
    resting("s1,1;l30;q10,1;a00,1;", -9);
    resting("s1,1;a00,1;", -9);
    about(27, "RESTS: the LANE of a SORT; -9.");
    resting("s1,1;l1;", 0);
    resting("s1,1;s1,1;s1,1;s1,1;s1,1;l0;l0;l0;l0;l0;l16;", -9, -9, -9, -9, 5);
    resting("s1,1;s1,1;l2;l1;a00,25;a01,25;", 1, 0);
  }

  private void row() {
    about(0, "A ROW of waits (0 .. 32767; 5 at most):");
    WhichLane x = new WhichLane();
    due("least", x.row(0), 1);
    due("greatest", x.row(32767), 2);
    due("one above", x.row(32768), -6);
    due("one below", x.row(-1), -4);
    due("two still", x.count(5), 2);
    about(28, "A wait more of the ROW: how many.");
    for (int i = 3; i <= 5; i++) {
      due("the " + i + "-th", x.row(9), i);
    }
    due("no sixth", x.row(9), -6);
    due("five still", x.count(5), 5);
    x.judge();
    due("it begins anew", x.row(9), 1);
  }

  /** A ROW of these waits is judged on a house whose means are 0, 3 and 0. */
  private void judge(int want, int... waits) {
    WhichLane x = house("s10,1;s5,1;s7,1;l3;a00,1;a01,3;a02,2;");
    for (int wait : waits) {
      x.row(wait);
    }
    StringBuilder s = new StringBuilder("ROW");
    for (int wait : waits) {
      s.append(' ').append(wait);
    }
    due(s.toString(), x.judge(), want);
    due(s + ": it has none then", x.count(5), 0);
  }

  private void judged() {
    about(0, "JUDGED: the first SORT whose mean WAITED (all by how many are not LOST, cut; 0 of none) in a DAY is not so told;");
    judge(-9, 0, 3, 0);
    judge(0, 1, 3, 0);
    judge(1, 0, 4, 0);
    judge(1, 0, 2, 0);
    judge(2, 0, 3, 1);
    judge(0, 1, 4, 1);
    judge(0, 32767, 3, 0);
    judge(1, 0, 4);
    judge(0, 9);
    judge(1, 0, 4, 0, 0, 0);
    WhichLane five = house("s10,1;s10,1;s10,1;s10,1;s10,1;l31;", FIVE_COME);
    for (int wait = 0; wait <= 40; wait += 10) {
      five.row(wait);
    }
    due("five of five", five.judge(), -9);
    WhichLane none = house("s10,1;s10,1;l1;a00,1;");
    none.row(0);
    none.row(0);
    due("0 of none that come", none.judge(), -9);
    WhichLane some = with(house("s60,1;s60,1;l3;a00,25;a01,1;"), LONGEST, 2);
    some.row(34);
    some.row(60);
    due("516 by the 15 that are not LOST, cut", some.judge(), -9);
  }

  private void judgedByLength() {
    about(0, "-9; where it ends, if it is too short; how many SORTS, if it is too long.");
    judge(0);
    judge(1, 0);
    judge(2, 0, 3);
    judge(3, 0, 3, 0, 0);
    judge(3, 0, 3, 0, 9, 9);
    about(29, "JUDGED; -9 (whichever it answers, the ROW has none then).");
    WhichLane x = new WhichLane();
    due("an empty ROW of no SORTS", x.judge(), -9);
    x.row(0);
    due("too long for no SORTS", x.judge(), 0);
    due("it has none", x.count(5), 0);
    due("an empty ROW again", x.judge(), -9);
    for (int i = 0; i < 5; i++) {
      x.row(0);
    }
    due("five", x.judge(), 0);
    due("none of five", x.count(5), 0);
    tell(x, "s1,1;");
    due("an empty ROW of one SORT", x.judge(), 0);
    x.row(0);
    due("as told", x.judge(), -9);
    due("none then", x.count(5), 0);
  }
}
