/** The terms HOUSE, FAULT, SETTINGS and THE IMAGE, and the promises that tell, show and keep a house. */
final class HouseSentences extends SentenceTests {
  private static final String NINES = "a00,25;".repeat(8);
  private static final String BYTES_64 = "s1,1;" + NINES + "l1;";
  private static final String FIVE_SORTS = "s1,1;s1,1;s1,1;s1,1;s1,1;";
  private static final String SIX_LANES = "l1;l1;l1;l1;l1;l1;";

  HouseSentences(Tally t, Document document) {
    super(t, document);
  }

  @Override
  void sentences() {
    textOf64();
    statementEnds();
    sortStatement();
    mostSorts();
    laneStatement();
    mostLanes();
    comersStatement();
    comersToldAgain();
    changeStatement();
    changeToldAgain();
    numbers();
    empty();
    faultOfForm();
    faultOfFormAtItsPlaces();
    faultOfSense();
    faultOfSenseAhead();
    allOrNothing();
    settings();
    image();
    imageTaken();
    imageGone();
    newObject();
    fed();
    fedFull();
    housed();
    sortTold();
    laneTold();
    wordTold();
    settingTold();
    comersTold();
  }

  /** Told to a new object: so many statements, or the fault, which leaves nothing. */
  private void answers(String text, int want) {
    WhichLane x = new WhichLane();
    due(text + " comes", feed(x, text), text.length());
    due(text, x.house(), want);
    due(text + ": the tape has none", x.count(6), 0);
    if (want < 0) {
      same(text + ": nothing comes", state(x), state(new WhichLane()));
      same(text + ": nothing is counted", refusals(x), "0,0,0,0,0,0");
    }
  }

  private void textOf64() {
    about(0, "A HOUSE is read from a TEXT (64 bytes at most):");
    WhichLane x = new WhichLane();
    due("64 bytes come", feed(x, BYTES_64), 64);
    due("no 65th", x.feed(1, ';'), -6);
    due("64 bytes are a house", x.house(), 10);
    due("its sort", x.sort(0, 2), 25);
    due("its lane", x.lane(0, 3), 1);
    due("63 bytes", tell(x, "a00,00;".repeat(9)), 9);
    due("three bytes", tell(x, "l2;"), 1);
  }

  private void statementEnds() {
    about(0, "STATEMENTS, each with \";\" behind:");
    answers("l1;", 1);
    answers("l1", -1002);
    answers("l1;l2", -1005);
    answers("l1;;", -1003);
    answers(";l1;", -1000);
    answers("l1:", -1002);
    answers("s1,1l1;", -1004);
    answers("s1,1;l1 ;", -1007);
  }

  private void sortStatement() {
    about(0, "\"s\" SECONDS (1 .. 60) \",\" WORTH (1 .. 99):");
    answers("s0,1;", -2000);
    answers("s00,1;", -2000);
    answers("s61,1;", -2000);
    answers("s99,1;", -2000);
    answers("s1,0;", -2000);
    answers("s1,00;", -2000);
    answers("s1,100;", -1005);
    answers("s1;1;", -1002);
    WhichLane x = house("s1,1;s60,99;");
    due("least SECONDS", x.sort(0, 0), 1);
    due("least WORTH", x.sort(0, 1), 1);
    due("greatest SECONDS", x.sort(1, 0), 60);
    due("greatest WORTH", x.sort(1, 1), 99);
  }

  private void mostSorts() {
    about(0, "a SORT more (5 at most);");
    answers(FIVE_SORTS, 5);
    answers(FIVE_SORTS + "s1,1;", -2025);
    WhichLane x = house(FIVE_SORTS);
    due("five", x.count(0), 5);
    due("a sixth of another text", tell(x, "s2,2;"), -2000);
    due("five still", x.count(0), 5);
    due("the fifth is as it was", x.sort(4, 0), 1);
    WhichLane y = house("s1,1;s1,1;s1,1;s1,1;");
    due("the fifth of another text", tell(y, "s7,8;"), 1);
    due("the fifth SECONDS", y.sort(4, 0), 7);
    due("the fifth WORTH", y.sort(4, 1), 8);
  }

  private void laneStatement() {
    about(0, "\"l\" a WORD (0 .. 31: bits of SORTS that may pay there):");
    answers("l0;", 1);
    answers("l00;", 1);
    answers("l31;", 1);
    answers("l32;", -2000);
    answers("l99;", -2000);
    due("least", house("l0;").lane(0, 0), 0);
    due("greatest", house("l31;").lane(0, 0), 31);
    for (int bit = 0; bit < 5; bit++) {
      WhichLane x = house(FIVE_SORTS + "l" + (1 << bit) + ";", "a00,1;a01,1;a02,1;a03,1;a04,1;");
      for (int sort = 0; sort < 5; sort++) {
        due("bit " + bit + " is sort " + bit + ", not " + sort, x.lost(sort), sort == bit ? 0 : 1);
      }
    }
  }

  private void mostLanes() {
    about(0, "a LANE more (6 at most);");
    answers(SIX_LANES, 6);
    answers(SIX_LANES + "l1;", -2018);
    WhichLane x = house(SIX_LANES);
    due("six", x.count(1), 6);
    due("a seventh of another text", tell(x, "l2;"), -2000);
    due("six still", x.count(1), 6);
    due("the sixth is as it was", x.lane(5, 3), 1);
    WhichLane y = house("l1;l1;l1;l1;l1;");
    due("the sixth of another text", tell(y, "l7;"), 1);
    due("the sixth's WORD", y.lane(5, 3), 7);
  }

  private void comersStatement() {
    about(0, "\"a\" a QUARTER (a digit, 0 .. 3) a SORT (a digit) \",\" how many come in it (0 .. 25;");
    answers("s1,1;a00,0;", 2);
    answers("s1,1;a30,25;", 2);
    answers("s1,1;a40,1;", -2005);
    answers("s1,1;a90,1;", -2005);
    answers("s1,1;a01,1;", -2005);
    answers("s1,1;a09,1;", -2005);
    answers("s1,1;a00,26;", -2005);
    answers("s1,1;a00,99;", -2005);
    answers("s1,1;a0,1;", -1007);
    answers("s1,1;a000,1;", -1008);
    answers(FIVE_SORTS + "a34,25;", 6);
    answers(FIVE_SORTS + "a35,25;", -2025);
    WhichLane x = house(FIVE_SORTS, "a04,1;a14,2;a24,0;a34,25;");
    due("QUARTER 0", x.sort(4, 2), 1);
    due("QUARTER 1", x.sort(4, 3), 2);
    due("none in QUARTER 2", x.sort(4, 4), 0);
    due("the most in QUARTER 3", x.sort(4, 5), 25);
    due("none of another SORT", x.sort(3, 5), 0);
  }

  private void comersToldAgain() {
    about(0, "told again it takes the place);");
    WhichLane x = house("s1,1;a00,25;a00,3;");
    due("in one text", x.sort(0, 2), 3);
    tell(x, "a00,4;");
    due("in another text", x.sort(0, 2), 4);
    tell(x, "a00,0;");
    due("by none", x.count(2), 0);
  }

  private void changeStatement() {
    about(0, "\"q\" a QUARTER (1 .. 3) a LANE (a digit) \",\" a WORD: from that QUARTER on the LANE has it");
    answers("l1;q10,0;", 2);
    answers("l1;q30,31;", 2);
    answers("l1;q00,1;", -2003);
    answers("l1;q40,1;", -2003);
    answers("l1;q90,1;", -2003);
    answers("l1;q11,1;", -2003);
    answers("l1;q19,1;", -2003);
    answers("l1;q10,32;", -2003);
    answers("l1;q10,99;", -2003);
    answers("l1;q1,1;", -1005);
    answers("l1;q100,1;", -1006);
    answers(SIX_LANES + "q35,31;", 7);
    answers(SIX_LANES + "q36,31;", -2018);
    for (int quarter = 1; quarter <= 3; quarter++) {
      WhichLane x = house("l5;l6;q" + quarter + "1,7;");
      for (int q = 0; q <= 3; q++) {
        due("from QUARTER " + quarter + " on, in " + q, x.lane(1, q), q < quarter ? 6 : 7);
        due("not LANE 0 in " + q, x.lane(0, q), 5);
      }
    }
  }

  private void changeToldAgain() {
    about(0, "(told again likewise).");
    WhichLane x = house("l5;q20,7;q20,9;");
    due("in one text", x.lane(0, 2), 9);
    due("one change", x.count(4), 1);
    tell(x, "q20,0;");
    due("in another text", x.lane(0, 3), 0);
    due("one change still", x.count(4), 1);
    due("ahead of it as it was", x.lane(0, 1), 5);
    tell(x, "q20,5;");
    due("the same as ahead of it", x.lane(0, 2), 5);
    due("that is a change told, too", x.count(4), 1);
  }

  private void numbers() {
    about(0, "Numbers have 1 or 2 digits and may begin with 0.");
    answers("s01,01;l00;a00,00;q10,00;", 4);
    answers("s1,1;l1;a00,1;q10,1;", 4);
    answers("s60,99;l31;a30,25;q30,31;", 4);
    answers("s,1;", -1001);
    answers("s1,;", -1003);
    answers("l;", -1001);
    answers("a00,;", -1004);
    answers("q10,;", -1004);
    answers("s001,1;", -1003);
    answers("s1,001;", -1005);
    answers("l001;", -1003);
    answers("a00,001;", -1006);
    answers("q10,001;", -1006);
    answers("l-1;", -1001);
    answers("l+1;", -1001);
    answers("l 1;", -1001);
    WhichLane x = house("s07,09;l08;a00,05;");
    due("SECONDS", x.sort(0, 0), 7);
    due("WORTH", x.sort(0, 1), 9);
    due("comers", x.sort(0, 2), 5);
    due("WORD", x.lane(0, 0), 8);
  }

  private void empty() {
    about(0, "At least one STATEMENT.");
    answers("", -1000);
    answers(";", -1000);
    WhichLane x = house("l1;");
    due("an empty TAPE behind a house", x.house(), -1000);
    due("the house stands", x.count(1), 1);
  }

  private void faultOfForm() {
    about(0, "FAULT: kind 1 the place of the first byte with which no HOUSE can go on (the end, if something lacks): "
        + "-1000 less the place;");
    String whole = "s12,34;l12;a00,12;q10,12;";
    for (int end = 0; end < whole.length(); end++) {
      boolean isHouse = end > 0 && whole.charAt(end - 1) == ';';
      if (!isHouse) {
        answers(whole.substring(0, end), -1000 - end);
      }
    }
    for (int at = 0; at < whole.length(); at++) {
      answers(whole.substring(0, at) + "x" + whole.substring(at + 1), -1000 - at);
    }
    answers("xyz", -1000);
    answers("l1;xx", -1003);
    answers("l99;x", -1004);
    answers("l99;l", -1005);
    answers("a00,1;q00,1;s0,0;l", -1018);
  }

  private void faultOfFormAtItsPlaces() {
    about(0, "kind 1 the place of the first byte with which no HOUSE can go on (the end, if something lacks)");
    String full = "s1,1;" + NINES;
    answers(full + "l1:", -1063);
    answers(full + "x1;", -1061);
    answers(full + "l11", -1064);
    answers(full + "l1", -1063);
    answers(full + "s1,", -1064);
    answers(full, 9);
    int[] signs = {0, 9, 10, 32, '/', ':', 'A', 'L', 'S', '[', 'b', 'k', 'm', 'p', 'r', 't', 127, 128, 'l' + 128, 255};
    for (int sign : signs) {
      answers("l1;" + (char) sign + "1;", -1003);
      answers("l" + (char) sign + ";", -1001);
    }
    answers("l" + (char) ('1' + 128) + ";", -1001);
    answers("l1" + (char) (';' + 128), -1002);
    answers("l/;", -1001);
    answers("l9/;", -1002);
  }

  private void faultOfSense() {
    about(0, "else kind 2 the place of the letter of the first STATEMENT that, behind all ahead of it in the text, is not as "
        + "it must be (a number out of range, a SORT or a LANE that is not there ahead of it, no room for more): "
        + "-2000 less the place.");
    answers("l1;l32;l33;", -2003);
    answers("s1,1;l32;s0,1;", -2005);
    answers("a00,1;s1,1;", -2000);
    answers("q10,1;l1;", -2000);
    answers("s1,1;a00,1;a01,1;s1,1;", -2011);
    answers("l1;q10,1;q11,1;l1;", -2009);
    answers("s1,1;a00,1;", 2);
    answers("l1;q10,1;", 2);
    answers("s1,1;" + NINES + "l9;", 10);
    answers("s1,1;" + "a00,25;".repeat(7) + "l1;l1;" + "l32;", -2060);
    answers("s1,1;" + "a00,25;".repeat(8), 9);
    WhichLane lanes = house(SIX_LANES);
    due("at the last three of 64 bytes", tell(lanes, BYTES_64), -2061);
    due("no SORT came", lanes.count(0), 0);
  }

  private void faultOfSenseAhead() {
    about(0, "behind all ahead of it in the text");
    WhichLane x = house("s1,1;l1;");
    due("a SORT and a LANE of another text", tell(x, "a00,25;q30,31;"), 2);
    due("a SORT of this text", tell(x, "s2,2;a01,2;"), 2);
    due("a LANE of this text", tell(x, "l2;q21,3;"), 2);
    due("a SORT of this text, not ahead", tell(x, "a02,2;s3,3;"), -2000);
    due("a LANE of this text, not ahead", tell(x, "l2;q23,3;l4;"), -2003);
    due("three more SORTS", tell(x, "s1,1;s1,1;s1,1;s1,1;"), -2015);
    due("four more LANES", tell(x, "l1;l1;l1;l1;l1;"), -2012);
    due("SORTS", x.count(0), 2);
    due("LANES", x.count(1), 2);
  }

  private void allOrNothing() {
    about(0, "Without FAULT all of it comes, with one nothing.");
    WhichLane x = house("s1,2;l3;a00,4;q10,5;");
    String before = state(x);
    due("kind 2 at the end", tell(x, "s2,2;l4;a00,9;a01,9;q10,6;q21,7;l32;"), -2032);
    same("nothing of it", state(x), before);
    due("kind 1 at the end", tell(x, "s2,2;l4;a00,9;a01,9;q10,6;q21,7;l3"), -1034);
    same("nothing of it", state(x), before);
    due("without", tell(x, "s2,2;l4;a00,9;a01,8;q10,6;q21,7;"), 6);
    due("SORT", x.sort(1, 0) * 10 + x.sort(1, 1), 22);
    due("LANE", x.lane(1, 1), 4);
    due("comers", x.sort(0, 2) * 10 + x.sort(1, 2), 98);
    due("changes", x.lane(0, 1) * 10 + x.lane(1, 2), 67);
  }

  private void setting(int what, String words, int first, int least, int most) {
    about(0, words);
    WhichLane x = new WhichLane();
    due("first", x.set(what, most), first);
    due("greatest", x.set(what, most), most);
    due("one above", x.set(what, most + 1), -6);
    due("far above", x.set(what, Integer.MAX_VALUE), -6);
    due("greatest still", x.set(what, least), most);
    due("one below", x.set(what, least - 1), -4);
    due("far below", x.set(what, Integer.MIN_VALUE), -4);
    due("least still", x.set(what, first), least);
  }

  private void settings() {
    about(0, "SETTINGS:");
    due("eight", new WhichLane().set(7, 0), 0);
    due("no ninth", new WhichLane().set(8, 0), -2);
    setting(SWITCH, "0 SWITCH (0 .. 60 seconds; 0),", 0, 0, 60);
    setting(GAP, "1 GAP (0 .. 20; 0),", 0, 0, 20);
    setting(STRAYS, "2 STRAYS (0 .. 100 hundredths; 0),", 0, 0, 100);
    setting(EXTRA, "3 EXTRA (0 .. 99 seconds; 30),", 30, 0, 99);
    setting(RULE, "4 RULE (0 .. 4; 0),", 0, 0, 4);
    setting(LONGEST, "5 LONGEST (1 .. 60; 40),", 40, 1, 60);
    setting(SHUT, "6 SHUT (0 .. 99 seconds; 0),", 0, 0, 99);
    setting(SIGN, "7 SIGN (0 .. 9; 0).", 0, 0, 9);
  }

  private void image() {
    about(0, "THE IMAGE: SORTS, LANES, all that is told of them, SETTINGS; ON from it all is as then (THE TAPE, the ROW and "
        + "REFUSALS stay).");
    WhichLane x = house("s9,1;l1;q10,2;a00,3;");
    for (int what = 0; what <= 7; what++) {
      x.set(what, 2);
    }
    String then = state(x);
    x.image();
    tell(x, "s8,2;l2;q20,2;q10,3;q31,0;a01,7;a00,8;");
    x.word(0, 30);
    x.come(3, 0, 25);
    for (int what = 0; what <= 7; what++) {
      x.set(what, 1);
    }
    due("ON", x.on(), 1);
    same("all is as then", state(x), then);
    due("a SORT told behind it begins without comers", tell(x, "s8,2;l4;"), 2);
    due("none", x.sort(1, 2), 0);
    due("a LANE told behind it has no changes", x.lane(1, 2), 4);
    feed(x, "l7;");
    x.row(5);
    x.word(9, 9);
    due("ON again", x.on(), 1);
    due("the ROW stays", x.count(5), 1);
    due("THE TAPE stays", x.count(6), 3);
    same("REFUSALS stay", refusals(x), "1,0,0,0,0,0");
    due("what THE TAPE has", x.house(), 1);
    due("is as it was fed", x.lane(1, 0), 7);
    due("what the ROW has", x.judge(), 0);
  }

  private void imageTaken() {
    about(30, "THE IMAGE is taken: how many LANES.");
    WhichLane x = new WhichLane();
    due("of nothing", x.image(), 0);
    tell(x, SIX_LANES);
    due("six", x.image(), 6);
    x.set(GAP, 9);
    due("that of six, not that of none", x.on(), 6);
    due("taken behind the setting", x.set(GAP, 8), 0);
    x.image();
    x.set(GAP, 7);
    due("taken anew", x.on(), 6);
    due("takes the place of the one ahead", x.set(GAP, 0), 8);
    x.on();
    due("what is done behind ON does not reach it", x.set(GAP, 0), 8);
  }

  private void imageGone() {
    about(31, "ON from it: how many LANES.");
    WhichLane x = new WhichLane();
    x.image();
    tell(x, "s1,1;l1;");
    due("ON from nothing", x.on(), 0);
    same("no SORTS, no LANES", state(x), state(new WhichLane()));
    WhichLane y = house(SIX_LANES);
    y.image();
    due("ON from six", y.on(), 6);
    due("ON from six again", y.on(), 6);
  }

  private void newObject() {
    about(1, "No SORTS, no LANES.");
    WhichLane x = new WhichLane();
    same("all", state(x), "0 0 0 0 0 0 0 0 0 0 30 0 40 0 0 ");
    same("no refusals", refusals(x), "0,0,0,0,0,0");
    due("no SORT 0", x.sort(0, 0), -1);
    due("no LANE 0", x.lane(0, 0), -1);
    due("no IMAGE", x.on(), -3);
    due("an empty TAPE", x.house(), -1000);
    due("an empty ROW", x.judge(), -9);
  }

  private void fed() {
    about(2, "n (1 .. 8) bytes come, the lowest first: how many THE TAPE has.");
    WhichLane x = new WhichLane();
    due("one", x.feed(1, 'l' | (long) 'x' << 8), 1);
    due("two, the lowest first", x.feed(2, '3' | '1' << 8 | 'x' << 16), 3);
    due("a byte above 127 of a number below 0", x.feed(1, -1L << 8 | ';'), 4);
    due("they are a house", x.house(), 1);
    due("31", x.lane(0, 0), 31);
    due("eight, the highest last", x.feed(8, 0x3b34306c3b32306cL), 8);
    due("two LANES", x.house(), 2);
    due("the lowest four", x.lane(1, 0), 2);
    due("the highest four", x.lane(2, 0), 4);
    due("eight of 255", x.feed(8, Long.MIN_VALUE | Long.MAX_VALUE), 8);
    due("the first is 255", x.house(), -1000);
  }

  private void fedFull() {
    about(2, "-6 (n; above 64)");
    WhichLane x = new WhichLane();
    for (int i = 1; i <= 7; i++) {
      due("eight", x.feed(8, 0x3b31306c3b31306cL), 8 * i);
    }
    due("56 and 7", x.feed(7, 0x3b31306c3b31306cL), 63);
    due("63 and 2", x.feed(2, ';'), -6);
    due("63 and 8", x.feed(8, ';'), -6);
    due("63 still", x.count(6), 63);
    due("63 and 1", x.feed(1, ';'), 64);
    due("64 and 1", x.feed(1, ';'), -6);
    due("64 still", x.count(6), 64);
    same("each is counted", refusals(x), "0,0,0,0,0,3");
    due("what was refused is not on it", x.house(), -2024);
    due("it has room again", x.feed(8, 0), 8);
  }

  private void housed() {
    about(3, "THE TAPE becomes a HOUSE, and has none (by a FAULT, too): how many STATEMENTS; the FAULT (nothing is counted).");
    WhichLane x = new WhichLane();
    due("one", tell(x, "s1,1;"), 1);
    due("none is on THE TAPE", x.count(6), 0);
    due("none is on it", x.house(), -1000);
    due("a FAULT of kind 1", tell(x, "l1;l"), -1004);
    due("none by a FAULT", x.count(6), 0);
    due("a FAULT of kind 2", tell(x, "l1;l32;"), -2003);
    due("none by a FAULT", x.count(6), 0);
    due("what comes behind a FAULT begins anew", tell(x, "l1;"), 1);
    due("the most that 64 bytes can have", tell(new WhichLane(), SIX_LANES + FIVE_SORTS + "a00,1;a00,1;a00,1;"), 14);
    same("nothing is counted", refusals(x), "0,0,0,0,0,0");
  }

  private void sortTold() {
    about(4, "Of a SORT: 0 SECONDS, 1 WORTH, 2 .. 5 how many come in QUARTERS 0 .. 3.");
    WhichLane x = house("s60,99;s7,8;a01,1;a11,2;a21,3;a31,25;");
    int[] want = {7, 8, 1, 2, 3, 25};
    for (int what = 0; what <= 5; what++) {
      due("" + what, x.sort(1, what), want[what]);
    }
    due("SECONDS of SORT 0", x.sort(0, 0), 60);
    due("WORTH of SORT 0", x.sort(0, 1), 99);
    due("none of SORT 0", x.sort(0, 5), 0);
  }

  private void laneTold() {
    about(5, "The WORD of a LANE in a QUARTER.");
    WhichLane x = house("l5;l31;q10,0;q30,9;q21,1;");
    int[] first = {5, 0, 0, 9};
    int[] second = {31, 31, 1, 1};
    for (int quarter = 0; quarter <= 3; quarter++) {
      due("LANE 0, QUARTER " + quarter, x.lane(0, quarter), first[quarter]);
      due("LANE 1, QUARTER " + quarter, x.lane(1, quarter), second[quarter]);
    }
  }

  private void wordTold() {
    about(6, "The WORD of a LANE from QUARTER 0 on (changes stay): what it was.");
    WhichLane x = house("l5;l6;q20,4;");
    due("what it was", x.word(0, 31), 5);
    due("QUARTER 0", x.lane(0, 0), 31);
    due("QUARTER 1", x.lane(0, 1), 31);
    due("the change stays in 2", x.lane(0, 2), 4);
    due("and in 3", x.lane(0, 3), 4);
    due("and is told still", x.count(4), 1);
    due("greatest", x.word(0, 0), 31);
    due("least", x.word(0, 4), 0);
    due("it is that of QUARTER 0", x.word(0, 4), 4);
    due("LANE 1 is as it was", x.lane(1, 3), 6);
    due("not that of QUARTER 1", house("l5;q10,4;").word(0, 31), 5);
    tell(x, "q10,4;");
    due("told to the same it is a change, too", x.count(4), 2);
  }

  private void settingTold() {
    about(7, "A SETTING: what it was.");
    WhichLane x = new WhichLane();
    int[] least = {0, 0, 0, 0, 0, 1, 0, 0};
    for (int what = 0; what <= 7; what++) {
      x.set(what, least[what]);
    }
    for (int what = 0; what <= 7; what++) {
      due("the least of " + what, x.set(what, 3), least[what]);
      due("what it was", x.set(what, 3), 3);
      due("the next is as it was", what < 7 ? x.set(what + 1, least[what + 1]) : 0, what < 7 ? least[what + 1] : 0);
    }
  }

  private void comersTold() {
    about(8, "How many come: what it was.");
    WhichLane x = house("s1,1;s1,1;a31,9;");
    due("told by the text", x.come(3, 1, 25), 9);
    due("greatest", x.come(3, 1, 0), 25);
    due("least", x.come(3, 1, 4), 0);
    due("QUARTER 0", x.come(0, 1, 3), 0);
    due("SORT 0", x.come(3, 0, 2), 0);
    due("all", x.count(2), 9);
    due("by the text again", tell(x, "a31,1;"), 1);
    due("what the text told", x.come(3, 1, 1), 1);
  }
}
