/** The terms of a DAY, OPEN, LOAD, the RULES, STRAYS, WAITED and COST, and the promises that tell of a day. */
final class DaySentences extends SentenceTests {
  private static final String FIVE_COME = "a00,1;a01,1;a02,1;a03,1;a04,1;";

  DaySentences(Tally t, Document document) {
    super(t, document);
  }

  @Override
  void sentences() {
    quarters();
    lastSecond();
    comings();
    comingsOfFifty();
    choosing();
    lostWithoutLane();
    choosingAheadOfLeaving();
    leaving();
    leavingByNumbers();
    serving();
    switching();
    extra();
    extraByTheWordThen();
    open();
    openByLongest();
    shut();
    shutByChange();
    loadOfThoseWhoStand();
    loadOfTheOneServed();
    loadIsNotBelowNought();
    loadBeginsAnew();
    rules();
    ruleMixed();
    ruleApart();
    ruleQuick();
    ruleFirst();
    ruleLast();
    strayCount();
    strayFromHundredOn();
    strayNextLane();
    strayInFullLane();
    waited();
    waitedTillTheEnd();
    waitedAheadOfTheRoad();
    waitedForTheRoad();
    costOfAll();
    promisesOfSorts();
    promisesOfLanes();
    lastOfAll();
    means();
  }

  /** How many left by each lane, a digit for each. */
  private static int passedBy(WhichLane x) {
    int all = 0;
    for (int lane = 0; lane < x.count(1); lane++) {
      all = 10 * all + x.passed(lane);
    }
    return all;
  }

  private void quarters() {
    about(0, "A DAY has 4 QUARTERS of 900 SECONDS (0 .. 3599)");
    for (int quarter = 0; quarter <= 3; quarter++) {
      WhichLane x = house("s1,1;l1;");
      x.come(quarter, 0, 1);
      due("one comes as QUARTER " + quarter + " begins", x.last(), 900 * quarter + 1);
    }
    for (int quarter = 1; quarter <= 3; quarter++) {
      WhichLane x = house("s1,1;l0;q" + quarter + "0,1;");
      x.come(quarter, 0, 25);
      due("the WORD of QUARTER " + quarter + " is there from its first SECOND on", x.lost(0), 0);
      x.come(quarter - 1, 0, 25);
      due("and not in the one ahead", x.lost(0), 25);
    }
  }

  private void lastSecond() {
    about(0, "and goes on to SECOND 7199.");
    WhichLane x = with(house("s59,1;s60,1;s60,1;l7;a30,1;a31,25;a32,25;"), SWITCH, 60, LONGEST, 60);
    due("done at 2759 and 120 behind each: at 7199 one leaves", x.last(), 7199);
    due("38 left", x.count(3), 38);
    WhichLane y = with(house("s60,1;s60,1;s60,1;l7;a30,1;a31,25;a32,25;"), SWITCH, 60, LONGEST, 60);
    due("at 7200 none leaves", y.last(), 7080);
    due("37 left", y.count(3), 37);
  }

  private void comings() {
    about(0, "Of n of a SORT that come in a QUARTER the k-th (k from 0) comes at its SECOND k times 900 by n, cut.");
    int[] many = {1, 2, 7, 13, 16, 24, 25};
    int[] latest = {0, 450, 771, 830, 843, 862, 864};
    for (int i = 0; i < many.length; i++) {
      WhichLane x = house("s1,1;l1;");
      x.come(0, 0, many[i]);
      due("the last of " + many[i], x.last(), latest[i] + 1);
      x.come(0, 0, 0);
      x.come(3, 0, many[i]);
      due("the last of " + many[i] + " in QUARTER 3", x.last(), 2700 + latest[i] + 1);
      due("all of them", x.served(0), many[i]);
    }
    due("nobody comes", house("s1,1;l1;").last(), -9);
  }

  private void comingsOfFifty() {
    about(0, "the k-th (k from 0) comes at its SECOND k times 900 by n, cut.");
    due("fifty each 18 seconds", house("s9,1;s18,1;l2;a00,25;a01,25;").buys(0, 1, 100), 25000);
    due("each waits one second more than the one ahead", house("s9,1;s19,1;l2;a00,25;a01,25;").buys(0, 1, 100), 25000 - 1225);
  }

  private void choosing() {
    about(0, "At each SECOND: 1 those that come, by SORTS, choose a LANE by the RULE and stand at its end");
    WhichLane x = house("s10,1;s20,1;s30,1;l7;a00,1;a01,1;a02,1;");
    due("SORT 0 is the first", x.waited(0), 0);
    due("SORT 1 behind it", x.waited(1), 10);
    due("SORT 2 at the end", x.waited(2), 30);
    due("the end", x.last(), 60);
    due("three stand there", x.longest(0), 3);
    WhichLane y = with(house("s60,1;s1,1;s1,1;l3;l5;a00,1;a01,1;a02,1;"), RULE, QUICK);
    due("SORT 0 chooses ahead of SORT 1 and 2", y.waited(1) * 100 + y.waited(2), 6000);
  }

  private void lostWithoutLane() {
    about(0, "(who can not is LOST);");
    WhichLane x = with(house("s1,7;a00,25;a30,25;"), STRAYS, 100);
    due("no LANES", x.lost(0), 50);
    due("a thousand each", x.cost(), 50000);
    due("none left", x.served(0), 0);
    due("none waited", x.waited(0), 0);
    due("none strayed", x.strayed(), 0);
    WhichLane y = house("s1,7;l30;a00,1;");
    due("in no WORD", y.lost(0), 1);
  }

  private void choosingAheadOfLeaving() {
    about(0, "2 LANES by numbers:");
    WhichLane x = with(house("s36,1;l1;a00,25;"), LONGEST, 1);
    due("one that is done at 36 is there when the next chooses at 36", x.lost(0), 12);
    WhichLane y = with(house("s35,1;l1;a00,25;"), LONGEST, 1);
    due("one that left at 35 is not", y.lost(0), 0);
    WhichLane z = house("s36,1;l1;a00,25;");
    due("behind the SECOND it is gone", z.longest(0), 1);
  }

  private void leaving() {
    about(0, "if the first of it is done, and GAP seconds or more went by since the latest that left any LANE, it leaves;");
    due("the first of a DAY waits for none", with(house("s1,1;l1;a00,1;"), GAP, 20).last(), 1);
    WhichLane x = house("s10,1;s30,1;l1;l2;a00,1;a01,1;");
    x.set(GAP, 20);
    due("20 seconds went by", x.waited(1), 0);
    WhichLane y = with(house("s10,1;s29,1;l1;l2;a00,1;a01,1;"), GAP, 20);
    due("19 seconds went by", y.waited(1), 1);
    due("it leaves a second behind", y.last(), 30);
    y.set(GAP, 19);
    due("19 are enough", y.last(), 29);
    WhichLane same = house("s10,1;s10,1;s10,1;l1;l2;l4;a00,1;a01,1;a02,1;");
    due("without GAP all at once", same.last(), 10);
    same.set(GAP, 1);
    due("with GAP 1 one each second", same.last(), 12);
    WhichLane one = with(house("s1,1;s1,1;l3;a00,1;a01,1;"), GAP, 20);
    due("by one LANE, too", one.last(), 21);
    due("till it is served and till it leaves", one.waited(1), 20);
  }

  private void leavingByNumbers() {
    about(0, "LANES by numbers: if the first of it is done");
    WhichLane x = with(house("s10,1;s10,1;s10,1;l4;l2;l1;a00,1;a01,1;a02,1;"), GAP, 20);
    due("LANE 0 is the first", x.waited(2), 0);
    due("LANE 1 the second", x.waited(1), 20);
    due("LANE 2 the third", x.waited(0), 40);
    WhichLane done = with(house("s11,1;s10,1;l1;l2;a00,1;a01,1;"), GAP, 20);
    due("one that is not done does not keep LANE 1", done.waited(1), 0);
    due("it waits itself", done.waited(0), 19);
  }

  private void serving() {
    about(0, "then, if none is being served there and one stands there, the first is served: it is done behind its SECONDS,");
    due("least", house("s1,1;l1;a00,1;").last(), 1);
    due("greatest", house("s60,1;l1;a00,1;").last(), 60);
    WhichLane x = house("s60,1;s60,1;s1,1;l7;a00,1;a01,1;a02,1;");
    due("the next is served in the SECOND in which the first leaves", x.last(), 121);
    due("not while one is being served", x.waited(2), 120);
    WhichLane kept = with(house("s10,1;s10,1;s1,1;l1;l6;a00,1;a01,1;a02,1;"), GAP, 20);
    due("nor while one that is done stands ahead", kept.waited(2), 30 + 19);
  }

  private void switching() {
    about(0, "SWITCH more, if the latest that was served there was of another SORT,");
    WhichLane x = with(house("s10,1;s10,1;l3;a00,1;a01,1;"), SWITCH, 60);
    due("another SORT", x.last(), 80);
    x.come(0, 0, 0);
    due("none was served there", x.last(), 10);
    x.come(0, 1, 25);
    due("the same SORT", x.last(), 864 + 10);
    WhichLane far = with(house("s10,1;s10,1;l3;a00,1;a31,1;"), SWITCH, 1);
    due("the latest, however long ago", far.last(), 2711);
    far.come(2, 1, 1);
    due("the latest alone", far.last(), 2710);
    WhichLane other = with(house("s10,1;s10,1;l1;l2;a00,1;a11,1;"), SWITCH, 60);
    due("not by another LANE", other.last(), 910);
    WhichLane begins = with(house("s10,1;s10,1;l3;a01,1;"), SWITCH, 60);
    due("each DAY begins without", begins.last() * 100 + begins.last(), 1010);
  }

  private void extra() {
    about(0, "and EXTRA more, if it strayed into a LANE whose WORD is without its SORT");
    WhichLane x = with(house("s10,1;l1;l0;a00,1;"), STRAYS, 100);
    due("30 at first", x.last(), 40);
    x.set(EXTRA, 0);
    due("least", x.last(), 10);
    x.set(EXTRA, 99);
    due("greatest", x.last(), 109);
    x.word(1, 1);
    due("a WORD with it", x.last(), 10);
    WhichLane both = with(house("s10,1;s10,1;l3;l0;a00,1;a01,1;"), STRAYS, 100, SWITCH, 60, EXTRA, 99);
    due("with SWITCH, too", both.last(), 109 + 169);
    WhichLane stays = house("s60,1;l1;q10,0;a00,25;");
    due("not one that did not stray, when the WORD changes", stays.last(), 1500);
    WhichLane next = with(house("s60,1;l1;l0;q10,0;a00,25;"), STRAYS, 100);
    due("all of them stray", next.strayed(), 25);
    next.set(STRAYS, 0);
    due("and none on the next DAY", next.last(), 1500);
  }

  private void extraByTheWordThen() {
    about(0, "(as the WORD is when it is served).");
    WhichLane x = with(house("s36,1;l1;l0;q11,1;a00,25;"), STRAYS, 100, EXTRA, 9);
    due("twenty of 45 seconds to 900, and five of 36", x.last(), 900 + 5 * 36);
    WhichLane y = with(house("s30,1;s30,1;l3;l0;q11,3;a00,25;a01,25;"), STRAYS, 100, EXTRA, 1, LONGEST, 60);
    due("thirty of 31 seconds, the last from 899 on, and twenty of 30", y.last(), 930 + 20 * 30);
    WhichLane z = with(house("s36,1;l1;l1;q11,0;a00,25;a10,1;"), STRAYS, 100, EXTRA, 9);
    due("the WORD is without from 900 on", z.last(), 945);
  }

  private void open() {
    about(0, "OPEN to a SORT is a LANE whose WORD has it,");
    for (int sort = 0; sort < 5; sort++) {
      WhichLane x = house("s1,1;s1,1;s1,1;s1,1;s1,1;l" + (1 << sort) + ";");
      x.come(0, sort, 1);
      due("SORT " + sort + " alone", x.lost(sort), 0);
      x.word(0, 31 - (1 << sort));
      due("all but SORT " + sort, x.lost(sort), 1);
    }
  }

  private void openByLongest() {
    about(0, "with fewer than LONGEST in it (served ones, too),");
    for (int longest = 1; longest <= 5; longest++) {
      WhichLane x = with(house("s9,1;s9,1;s9,1;s9,1;s9,1;l31;" + FIVE_COME), LONGEST, longest);
      for (int sort = 0; sort < 5; sort++) {
        due("LONGEST " + longest + ", SORT " + sort, x.lost(sort), sort < longest ? 0 : 1);
      }
      due("LONGEST " + longest + " stand there", x.longest(0), longest);
    }
    WhichLane most = with(house("s60,1;s60,1;s60,1;s60,1;s60,1;l31;", "a00,25;a01,25;a02,25;a03,25;a04,25;"), LONGEST, 60);
    due("60 stand there", most.longest(0), 60);
    due("all but 60 and 14 that left", most.lost(0) + most.lost(1) + most.lost(2) + most.lost(3) + most.lost(4), 125 - 74);
    most.set(LONGEST, 40);
    due("40 stand there", most.longest(0), 40);
    WhichLane done = with(house("s30,1;s30,1;l1;l2;a00,25;a01,25;"), GAP, 20, LONGEST, 1);
    due("one that is done and can not leave counts", done.lost(1), 12);
    due("LANE 0 is free each time", done.lost(0), 0);
  }

  private void shut() {
    about(0, "and not SHUT: for SHUT seconds from the beginning of a QUARTER in which its WORD changed");
    WhichLane x = house("s1,1;s1,1;l1;q10,3;a10,25;");
    int[] seconds = {0, 1, 36, 37, 72, 73, 99};
    int[] lost = {0, 1, 1, 2, 2, 3, 3};
    for (int i = 0; i < seconds.length; i++) {
      x.set(SHUT, seconds[i]);
      due("for " + seconds[i] + " seconds", x.lost(0), lost[i]);
    }
    x.come(0, 0, 25);
    x.come(2, 0, 25);
    x.come(3, 0, 25);
    due("not in QUARTERS ahead of it and behind", x.lost(0), 3);
    WhichLane each = with(house("s1,1;l1;q10,3;q20,1;q30,5;a10,1;a20,1;a30,1;"), SHUT, 1);
    due("in each QUARTER in which it changed", each.lost(0), 3);
    each.come(0, 0, 1);
    due("not in QUARTER 0", each.lost(0), 3);
    each.set(SHUT, 0);
    due("never without SHUT", each.lost(0), 0);
  }

  private void shutByChange() {
    about(0, "(to another one) none may choose it.");
    WhichLane x = with(house("s1,1;l1;q10,1;q20,1;a10,25;a20,25;"), SHUT, 99);
    due("to the same one", x.lost(0), 0);
    x.word(0, 3);
    due("from another one", x.lost(0), 3);
    tell(x, "q10,3;");
    due("the one of the QUARTER ahead counts", x.lost(0), 3);
    x.come(1, 0, 0);
    due("that was in QUARTER 2", x.lost(0), 3);
    x.come(1, 0, 25);
    x.come(2, 0, 0);
    due("and not in QUARTER 1", x.lost(0), 0);
    WhichLane two = with(house("s1,1;l1;l1;q10,3;a10,1;"), SHUT, 99);
    due("another LANE is not SHUT", passedBy(two), 1);
    WhichLane into = with(house("s1,1;l1;l3;q11,2;a10,1;"), SHUT, 99, STRAYS, 100);
    due("one who strays chose another", passedBy(into), 1);
  }

  private void loadOfThoseWhoStand() {
    about(0, "LOAD of a LANE: seconds that those who stand there will be served by their SORTS (no SWITCH, EXTRA; of FAILS by "
        + "told ones),");
    WhichLane x = with(house("s10,1;s10,1;s25,1;s1,1;l11;l12;a00,1;a01,1;a02,1;a03,1;"), RULE, QUICK, SWITCH, 60);
    due("20 is less than 25, and no SWITCH", passedBy(x), 31);
    WhichLane y = with(house("s20,1;s10,1;s60,1;l7;l4;a00,1;a01,1;a02,1;"), RULE, QUICK, STRAYS, 50);
    due("one strayed in LANE 1: 10 is less than 20, and no EXTRA", passedBy(y), 12);
    WhichLane z = with(house("s5,1;s6,1;s1,1;l5;l6;a00,1;a01,1;a02,1;"), RULE, QUICK);
    due("5 is less than 6", z.waited(2), 5);
    due("7 is told in place of 5: 6 is less", z.fails(0, 0, 7), 1);
    due("6 is told in place of 5: the least LANE", z.fails(0, 0, 6), 1);
    due("4 is told in place of 6", z.fails(1, 0, 4), -1);
    due("told for another QUARTER", z.fails(0, 1, 7), 0);
  }

  /** In each SORT 0 is by LANE 0 alone, the next by LANE 1; the last SORT chooses at 0 and at 450. */
  private void loadOfTheOneServed() {
    about(0, "and what is left of the one being served");
    WhichLane x = with(house("s60,1;s36,1;s1,1;l5;l6;a00,15;a01,25;a02,2;"), RULE, QUICK);
    due("at 450 30 are left of 60, and 19 of 36", x.waited(2), 36 + 19);
    WhichLane y = with(house("s60,1;s40,1;s1,1;l5;l6;a00,15;a01,22;a02,2;"), RULE, QUICK);
    due("at 450 30 are left of 60, and one of 40 has come", y.waited(2), 40 + 30);
    WhichLane z = with(house("s5,1;s20,1;s10,1;s1,1;l11;l12;", "a00,3;a01,7;a02,2;a03,2;"), RULE, QUICK, SWITCH, 60);
    due("at 450 15 are left of 20 and the SWITCH", passedBy(z), 104);
  }

  private void loadIsNotBelowNought() {
    about(0, "(0 at least).");
    WhichLane x = with(house("s30,1;s31,1;s3,1;s2,1;s1,1;l25;l22;", "a00,25;a01,25;a12,1;a13,1;a14,1;"), RULE, QUICK, GAP, 8);
    due("at 900 one in LANE 1 is done since 897 and can not leave till 902: 3 by 2", x.passed(0), 27);
    due("that by LANE 1", x.passed(1), 26);
  }

  private void loadBeginsAnew() {
    about(0, "seconds that those who stand there will be served");
    WhichLane x = with(house("s60,1;s60,1;l3;l0;a30,25;a31,25;"), RULE, QUICK, SWITCH, 60, LONGEST, 60);
    due("thirteen stand in LANE 0 as the DAY ends", x.count(2) - x.count(3), 13);
    tell(x, "a30,0;a31,0;a00,1;a01,1;");
    x.word(0, 2);
    x.word(1, 3);
    due("none in LANE 0 as the next DAY begins: 60 in LANE 1", passedBy(x), 11);
    x.word(0, 3);
    due("60 in LANE 0", passedBy(x), 11);
    due("none waits", x.cost(), 0);
  }

  private void rules() {
    about(0, "RULES:");
    WhichLane x = house("s60,1;s1,1;s1,1;s1,1;s1,1;l31;l31;l31;", FIVE_COME);
    int[] passed = {221, 221, 122, 500, 5};
    for (int rule = 0; rule <= 4; rule++) {
      x.set(RULE, rule);
      due("RULE " + rule, passedBy(x), passed[rule]);
    }
    x.set(RULE, 5);
    due("no RULE 5", passedBy(x), 5);
  }

  private void ruleMixed() {
    about(0, "0 MIXED: of LANES that are OPEN that with fewest in it, of several the least.");
    WhichLane x = house("s9,1;s9,1;s9,1;s9,1;s9,1;l1;l31;l31;", FIVE_COME);
    due("the least, those that are OPEN, fewest, the least", passedBy(x), 122);
    x.set(LONGEST, 1);
    due("a full one is not OPEN", passedBy(x), 111);
    WhichLane six = house("s9,1;l0;l0;l0;l0;l0;l1;a00,1;");
    due("the sixth alone is OPEN", passedBy(six), 1);
  }

  private void ruleApart() {
    about(0, "1 APART under MIXED: of LANES that are OPEN with fewest SORTS in the WORD (those that aren't there, too) that with "
        + "fewest in it, of several the least.");
    WhichLane x = with(house("s9,1;s9,1;s9,1;s9,1;s9,1;l31;l7;l11;", FIVE_COME), RULE, APART);
    due("0: LANE 1, 1: LANE 2, 2: LANE 1, 3: LANE 2, 4: LANE 0", passedBy(x), 122);
    WhichLane y = with(house("s60,1;l3;l1;a00,25;"), RULE, APART);
    due("fewest SORTS ahead of fewest in it", passedBy(y), 25);
    y.set(LONGEST, 1);
    due("of those that are OPEN", passedBy(y), 12 * 10 + 13);
    WhichLane z = with(house("s9,1;l17;l1;a00,1;"), RULE, APART);
    due("one that isn't there counts", passedBy(z), 1);
    WhichLane now = with(house("s9,1;l3;l1;q11,7;a10,1;"), RULE, APART);
    due("by the WORD now", passedBy(now), 10);
  }

  private void ruleQuick() {
    about(0, "2 QUICK under MIXED: that with least LOAD, of several the least.");
    WhichLane x = with(house("s30,1;s10,1;s20,1;s1,1;l1;l14;l12;", "a00,1;a01,1;a02,1;a03,1;"), RULE, QUICK);
    due("of LANES that are OPEN: 10 is less than 20", passedBy(x), 121);
    WhichLane y = with(house("s9,1;s10,1;s10,1;s1,1;l1;l10;l12;", "a00,1;a01,1;a02,1;a03,1;"), RULE, QUICK);
    due("of several the least", passedBy(y), 121);
    WhichLane z = with(house("s30,1;s10,1;s10,1;s5,1;l9;l14;", "a00,1;a01,1;a02,1;a03,1;"), RULE, QUICK);
    due("by LOAD and not by how many", passedBy(z), 13);
  }

  private void ruleFirst() {
    about(0, "3 FIRST under MIXED: the least that is OPEN.");
    WhichLane x = with(house("s9,1;s9,1;s9,1;s9,1;s9,1;l0;l31;l31;", FIVE_COME), RULE, FIRST);
    due("not one whose WORD is without", passedBy(x), 50);
    x.set(LONGEST, 3);
    due("not a full one", passedBy(x), 32);
  }

  private void ruleLast() {
    about(0, "4 LAST under FIRST: the greatest.");
    WhichLane x = with(house("s9,1;s9,1;s9,1;s9,1;s9,1;l31;l31;l0;", FIVE_COME), RULE, LAST);
    due("not one whose WORD is without", passedBy(x), 50);
    x.set(LONGEST, 3);
    due("not a full one", passedBy(x), 230);
    WhichLane six = with(house("s9,1;l1;l1;l1;l1;l1;l1;a00,1;"), RULE, LAST);
    due("the sixth", passedBy(six), 1);
  }

  private void strayCount() {
    about(0, "STRAYS by a count that begins with 0 each DAY: each that comes makes it more by (STRAYS less 8 times SIGN), by 0 at "
        + "least;");
    WhichLane x = with(house("s1,1;l1;l0;a00,1;"), STRAYS, 60);
    due("60 on a DAY", x.strayed(), 0);
    due("60 on the next", x.strayed(), 0);
    WhichLane y = house("s1,1;l1;l0;a00,25;a10,25;a20,25;a30,25;");
    due("100 by 0 each", y.strayed(), 0);
    int[] strays = {100, 1, 72, 73, 73, 71, 0, 100, 100, 80, 80};
    int[] sign = {0, 0, 9, 9, 8, 9, 9, 9, 1, 9, 8};
    int[] want = {100, 1, 0, 1, 9, 0, 0, 28, 92, 8, 16};
    for (int i = 0; i < strays.length; i++) {
      with(y, STRAYS, strays[i], SIGN, sign[i]);
      due("100 by STRAYS " + strays[i] + ", SIGN " + sign[i], y.strayed(), want[i]);
    }
    y.come(0, 0, 24);
    with(y, STRAYS, 73, SIGN, 9);
    due("99 by 1 each", y.strayed(), 0);
    WhichLane lost = with(house("s1,1;s1,1;l1;l0;a01,1;a10,1;"), STRAYS, 50);
    due("one who is LOST makes it more, too", lost.strayed(), 1);
  }

  private void strayFromHundredOn() {
    about(0, "from 100 on it is 100 less, and that one strays:");
    WhichLane x = house("s1,1;l1;l0;");
    int[] strays = {99, 99, 100, 50, 50, 34, 34, 34, 60, 60, 60, 60};
    int[] come = {1, 2, 1, 1, 2, 2, 3, 6, 1, 2, 4, 5};
    int[] want = {0, 1, 1, 0, 1, 0, 1, 2, 0, 1, 2, 3};
    for (int i = 0; i < strays.length; i++) {
      x.set(STRAYS, strays[i]);
      x.come(0, 0, come[i]);
      due(come[i] + " by " + strays[i], x.strayed(), want[i]);
    }
    WhichLane that = with(house("s10,1;s10,1;s10,1;l1;l2;l4;a00,1;a01,1;a02,1;"), STRAYS, 50);
    due("the second strays, not the first nor the third", passedBy(that), 102);
    WhichLane gone = with(house("s1,1;s1,1;l1;l0;a01,2;a10,1;"), STRAYS, 50);
    due("one who is LOST by 100 leaves 0", gone.strayed(), 0);
  }

  private void strayNextLane() {
    about(0, "it chooses likewise, but stands in the next LANE (behind the last LANE 0),");
    for (int lane = 0; lane < 6; lane++) {
      WhichLane x = with(house("s1,1;l0;l0;l0;l0;l0;l0;a00,1;"), STRAYS, 100);
      x.word(lane, 1);
      for (int next = 0; next < 6; next++) {
        due("from LANE " + lane + " into " + next, x.passed(next), next == (lane + 1) % 6 ? 1 : 0);
      }
    }
    WhichLane none = with(house("s1,1;l2;l2;a00,1;"), STRAYS, 100);
    due("one who can not choose is LOST", none.lost(0), 1);
    due("and strays into none", none.strayed(), 0);
  }

  private void strayInFullLane() {
    about(0, "if that has fewer than LONGEST in it (else where it chose, and has not strayed; nor has one where there is one LANE "
        + "alone).");
    WhichLane x = with(house("s60,1;s60,1;s60,1;l3;l4;a02,1;"), STRAYS, 50, RULE, FIRST, LONGEST, 2);
    x.come(0, 0, 1);
    x.come(0, 1, 1);
    due("SORT 1 strays into LANE 1, which is empty", passedBy(x), 12);
    due("it strayed", x.strayed(), 1);
    WhichLane y = with(house("s60,1;s60,1;l1;l2;a00,1;a01,1;"), STRAYS, 50, LONGEST, 1);
    due("LANE 0 is full: SORT 1 stands where it chose", passedBy(y), 11);
    due("it has not strayed", y.strayed(), 0);
    due("it is not LOST", y.lost(1), 0);
    due("it has no EXTRA", y.last(), 60);
    y.set(LONGEST, 2);
    due("LANE 0 has one and room for one", passedBy(y), 20);
    due("it strayed", y.strayed(), 1);
    due("it has EXTRA", y.last(), 150);
    WhichLane one = with(house("s10,1;l1;a00,25;"), STRAYS, 100);
    due("one LANE alone", one.strayed(), 0);
    due("all by it", one.served(0), 25);
  }

  private void waited() {
    about(0, "WAITED of one: SECONDS from its coming till it is served, and from when it is done till it leaves;");
    WhichLane x = with(house("s10,1;s20,1;l1;l3;a00,1;a01,1;"), GAP, 20);
    due("till it leaves", x.waited(1), 10);
    due("the other not", x.waited(0), 0);
    WhichLane y = with(house("s10,1;s20,1;l3;a00,1;a01,1;"), GAP, 20);
    due("till it is served, not while it is", y.waited(1), 10);
    y.set(SWITCH, 60);
    due("nor while it is by SWITCH", y.waited(1), 10);
    WhichLane z = with(house("s10,1;s5,1;l3;l0;a00,1;a01,1;"), STRAYS, 100);
    due("EXTRA is no waiting of its own, but of the next", z.waited(0) * 100 + z.waited(1), 40);
  }

  private void waitedTillTheEnd() {
    about(0, "what has not come to pass by the end is taken at 7200.");
    for (int seconds = 59; seconds <= 60; seconds++) {
      WhichLane x = with(house("s" + seconds + ",1;s60,1;s60,1;l7;a30,1;a31,25;a32,25;"), SWITCH, 60, LONGEST, 60);
      int[] waited = new int[3];
      for (int j = 1; j <= 50; j++) {
        waited[2 - j % 2] += Math.min(2700 + seconds + 120 * (j - 1), 7200) - (2700 + 36 * ((j - 1) / 2));
      }
      due("of SORT 1, the first is served " + seconds, x.waited(1), waited[1]);
      due("of SORT 2, the first is served " + seconds, x.waited(2), waited[2]);
      due("none is LOST", x.cost(), waited[1] + waited[2]);
    }
  }

  /** Each 20 seconds from 1 on the road takes one of LANES 0 to 4, and never the one in LANE 5. */
  private void waitedAheadOfTheRoad() {
    about(0, "what has not come to pass by the end is taken at 7200.");
    WhichLane x = house("s1,9;s1,1;s1,1;s1,1;s1,1;l30;l30;l30;l30;l30;l1;a00,1;", "a01,25;a11,25;a21,25;a31,25;a02,25;a12,25;a22,25;",
        "a32,25;a03,25;a13,25;a23,25;a33,25;a04,25;a14,25;", "a24,25;a34,25;");
    with(x, GAP, 20, LONGEST, 60);
    due("the first of the DAY, done at 1", x.waited(0), 7199);
    due("it has not left", x.served(0) + x.passed(5), 0);
    due("it is not LOST", x.lost(0), 0);
    due("it stands there", x.longest(5), 1);
    due("the others left, one each 20 seconds", x.count(3), 360);
    due("the latest", x.last(), 7181);
  }

  /**
   * All stray into LANE 1: from 2701 on 26 times 152 seconds and 5 times 109 to 7198; then SORT 0 is served 1 second.
   */
  private void waitedForTheRoad() {
    about(0, "and from when it is done till it leaves; what has not come to pass by the end is taken at 7200.");
    WhichLane x = with(house("s1,1;s53,1;s53,1;s10,1;l15;l1;", "a30,2;a31,25;a32,25;a33,10;"),
        EXTRA, 99, STRAYS, 100, RULE, FIRST, LONGEST, 60);
    int[] gaps = {0, 1, 2, 20};
    for (int gap : gaps) {
      x.set(GAP, gap);
      due("served at 7198, done at 7199, GAP " + gap, x.waited(0), 7198 - 3150 + (gap < 2 ? 0 : 1));
      due("left at 7199, GAP " + gap, x.served(0), gap < 2 ? 2 : 1);
      due("the latest, GAP " + gap, x.last(), gap < 2 ? 7199 : 7198);
    }
  }

  private void costOfAll() {
    about(0, "COST: of all that are not LOST WAITED times WORTH of the SORT, and 1000 for each that is LOST.");
    WhichLane x = house("s10,99;s20,98;s30,97;l7;a00,1;a01,1;a02,1;");
    due("by WORTH", x.cost(), 10 * 98 + 30 * 97);
    x.set(LONGEST, 2);
    due("SORT 2 is LOST, at no WORTH", x.cost(), 10 * 98 + 1000);
    x.word(0, 0);
    due("all LOST", x.cost(), 3000);
    due("nobody comes", house("s10,99;l1;").cost(), 0);
    due("no SORTS", house("l1;").cost(), 0);
    WhichLane most = house("s1,1;s1,1;s1,1;s1,1;s1,1;", all(0), all(1), all(2), all(3));
    due("500 LOST", most.cost(), 500000);
    most = house("s60,99;s60,99;s60,99;s60,99;s60,99;l31;", all(0), all(1), all(2), all(3));
    with(most, LONGEST, 60, SWITCH, 60);
    long cost = 0;
    for (int sort = 0; sort < 5; sort++) {
      cost += 99L * most.waited(sort) + 1000L * most.lost(sort);
    }
    due("far above", most.cost(), cost);
  }

  private static String all(int quarter) {
    StringBuilder s = new StringBuilder();
    for (int sort = 0; sort < 5; sort++) {
      s.append('a').append(quarter).append(sort).append(",25;");
    }
    return s.toString();
  }

  /** At 0 two stand; then one of SORT 0 comes each 36 seconds, one leaves each 60, and there is room for two. */
  private void promisesOfSorts() {
    WhichLane x = with(house("s60,7;s60,5;l3;a00,25;a01,1;"), LONGEST, 2);
    about(9, "COST of a DAY.");
    due("by WORTH and by LOST", x.cost(), 7 * 516 + 5 * 60 + 1000 * 10);
    about(10, "All WAITED of a SORT in a DAY.");
    due("of SORT 1", x.waited(1), 60);
    due("of those of SORT 0 that are not LOST", x.waited(0), 5 * 48 + 5 * 36 + 4 * 24);
    about(11, "How many of a SORT left by the end of a DAY.");
    due("SORT 1", x.served(1), 1);
    due("those that are not LOST", x.served(0), 15);
    due("not those that are there at the end",
        with(house("s60,1;s60,1;s60,1;l7;a30,1;a31,25;a32,25;"), SWITCH, 60, LONGEST, 60).served(2), 18);
    about(12, "How many were LOST.");
    due("none of SORT 1", x.lost(1), 0);
    due("of SORT 0 each that finds two there", x.lost(0), 10);
    about(13, "How many strayed in a DAY (into the next LANE).");
    due("one LANE", x.strayed(), 0);
    due("two LANES, each", with(house("s1,1;l1;l0;a00,25;a30,25;"), STRAYS, 100).strayed(), 50);
    due("no LANES", with(house("s1,1;a00,25;"), STRAYS, 100).strayed(), 0);
    due("nobody comes", with(house("s1,1;l1;l1;"), STRAYS, 100).strayed(), 0);
  }

  private void promisesOfLanes() {
    about(14, "The most that stood in a LANE (served ones, too) behind a SECOND of a DAY.");
    WhichLane x = house("s9,1;s9,1;s9,1;s9,1;s9,1;l31;l0;", FIVE_COME);
    due("five", x.longest(0), 5);
    due("none in the other", x.longest(1), 0);
    x.set(LONGEST, 1);
    due("one, being served", x.longest(0), 1);
    due("nobody comes", house("s1,1;l1;").longest(0), 0);
    due("the one who left in the SECOND is not there behind it", house("s36,1;l1;a00,25;").longest(0), 1);
    due("one waits behind it by then", house("s37,1;l1;a00,25;").longest(0), 2);
    WhichLane done = with(house("s30,1;s31,1;l1;l2;a00,25;a01,25;"), GAP, 8);
    due("one that is done stands there, too", done.longest(1), 2);
    done.set(GAP, 0);
    due("one that left does not", done.longest(1), 1);
    about(15, "How many left by a LANE in a DAY.");
    due("LANE 0", done.passed(0), 25);
    due("LANE 1", done.passed(1), 25);
    due("none by an empty one", x.passed(1), 0);
    due("not those that are there at the end",
        with(house("s60,1;s60,1;s60,1;l7;a30,1;a31,25;a32,25;"), SWITCH, 60, LONGEST, 60).passed(0), 37);
  }

  private void lastOfAll() {
    about(16, "The SECOND at which the latest left; -9 none did.");
    due("no SORTS, no LANES", new WhichLane().last(), -9);
    due("nobody comes", house("s1,1;l1;").last(), -9);
    due("all LOST", house("s1,1;l0;a00,25;").last(), -9);
    due("the latest of two LANES", house("s10,1;s9,1;l1;l2;a00,1;a01,1;").last(), 10);
    due("the first SECOND", house("s1,1;l1;a00,1;").last(), 1);
    due("the last SECOND",
        with(house("s59,1;s60,1;s60,1;l7;a30,1;a31,25;a32,25;"), SWITCH, 60, LONGEST, 60).last(), 7199);
  }

  private void means() {
    about(17, "All WAITED by how many are not LOST, in least terms: above (part 0), below the line; 0 by 1 of none.");
    WhichLane x = house("s10,1;s5,1;l3;a00,1;a01,3;");
    due("10 by 3", x.mean(1, 0) * 10 + x.mean(1, 1), 103);
    x.come(0, 1, 5);
    due("10 by 5 is 2 by 1", x.mean(1, 0) * 10 + x.mean(1, 1), 21);
    x.come(0, 1, 1);
    due("10 by 1", x.mean(1, 0) * 10 + x.mean(1, 1), 101);
    x.come(0, 1, 25);
    due("10 by 25 is 2 by 5", x.mean(1, 0) * 10 + x.mean(1, 1), 25);
    due("nobody waited: 0 by 1", x.mean(0, 0) * 10 + x.mean(0, 1), 1);
    x.come(0, 1, 0);
    due("of none that come", x.mean(1, 0) * 10 + x.mean(1, 1), 1);
    x.come(0, 1, 4);
    x.word(0, 1);
    due("of none that are not LOST", x.mean(1, 0) * 10 + x.mean(1, 1), 1);
    WhichLane some = with(house("s60,1;s60,1;l3;a00,25;a01,1;"), LONGEST, 2);
    due("516 by the 15 that are not LOST, above", some.mean(0, 0), 172);
    due("516 by the 15 that are not LOST, below", some.mean(0, 1), 5);
  }
}
