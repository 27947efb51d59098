/** A toll house: lanes with a word over each, sorts that pay there, days run by seconds. README.md tells how to use it. */
public final class WhichLane {
  private static final int MOST_SORTS = 5;
  private static final int MOST_LANES = 6;
  private static final int QUARTERS = 4;
  private static final int QUARTER_SECONDS = 900;
  private static final int COMING_SECONDS = 3600;
  private static final int DAY_SECONDS = 7200;
  private static final int MOST_COME = 25;
  private static final int MOST_COMERS = 500;
  private static final int MOST_WORD = 31;
  private static final int MOST_SECONDS = 60;
  private static final int MOST_NEED = 99;
  private static final int MOST_WORTH = 99;
  private static final int MOST_BYTES = 64;
  private static final int MOST_FEED = 8;
  private static final int MOST_WAITS = 5;
  private static final int MOST_WAIT = 32767;
  private static final int HUNDRED = 100;
  private static final int LOST_COST = 1000;
  private static final int REST_ROUNDS = 20;
  private static final int MOST_ORDERS = 720;
  private static final int EUCLID_STEPS = 64;

  private static final int SWITCH = 0;
  private static final int GAP = 1;
  private static final int STRAYS = 2;
  private static final int EXTRA = 3;
  private static final int RULE = 4;
  private static final int LONGEST = 5;
  private static final int SHUT = 6;
  private static final int SIGN = 7;
  private static final int SETTINGS = 8;
  private static final int[] LEAST_SETTING = {0, 0, 0, 0, 0, 1, 0, 0};
  private static final int[] MOST_SETTING = {60, 20, 100, 99, 4, 60, 99, 9};
  private static final int[] FIRST_SETTING = {0, 0, 0, 30, 0, 40, 0, 0};

  private static final int APART = 1;
  private static final int QUICK = 2;
  private static final int FIRST = 3;
  private static final int LAST = 4;
  private static final int SIGN_EFFECT = 8;

  private static final int NONE = -9;
  private static final int NOBODY = -1;
  private static final int OTHER = -2;
  private static final int STATE = -3;
  private static final int BELOW = -4;
  private static final int ROOM = -6;
  private static final int KINDS_OF_REFUSAL = 6;
  private static final int FAR_REFUSAL = 1000000000;
  private static final int BAD_FORM = -1000;
  private static final int BAD_SENSE = -2000;

  private final House house;
  private final House taken;
  private final Tape tape;
  private final Day day;
  private final Planner planner;
  private final Weaver weaver;
  private final Rest rest;
  private final int[] waits;
  private final int[] refusals;
  private int waitsTold;
  private boolean isTaken;

  public WhichLane() {
    house = new House();
    taken = new House();
    tape = new Tape();
    day = new Day();
    planner = new Planner();
    weaver = new Weaver();
    rest = new Rest();
    waits = new int[MOST_WAITS];
    refusals = new int[KINDS_OF_REFUSAL + 1];
    waitsTold = 0;
    isTaken = false;
  }

  public int feed(int n, long bytes) {
    if (n < 1) {
      return refuse(BELOW);
    }
    if (n > MOST_FEED || tape.size + n > MOST_BYTES) {
      return refuse(ROOM);
    }
    return tape.take(n, bytes);
  }

  public int house() {
    return tape.build(house);
  }

  public int sort(int sort, int what) {
    if (!house.hasSort(sort)) {
      return refuse(NOBODY);
    }
    if (what < 0 || what > 1 + QUARTERS) {
      return refuse(OTHER);
    }
    if (what == 0) {
      return house.seconds[sort];
    }
    return what == 1 ? house.worth[sort] : house.comersOf(sort, what - 2);
  }

  public int lane(int lane, int quarter) {
    if (!house.hasLane(lane) || !isQuarter(quarter)) {
      return refuse(NOBODY);
    }
    return house.wordOf(lane, quarter);
  }

  public int word(int lane, int v) {
    if (!house.hasLane(lane)) {
      return refuse(NOBODY);
    }
    if (v < 0) {
      return refuse(BELOW);
    }
    if (v > MOST_WORD) {
      return refuse(ROOM);
    }
    int before = house.wordOf(lane, 0);
    house.tellWord(lane, 0, v);
    return before;
  }

  public int set(int what, int v) {
    if (what < 0 || what >= SETTINGS) {
      return refuse(OTHER);
    }
    if (v < LEAST_SETTING[what]) {
      return refuse(BELOW);
    }
    if (v > MOST_SETTING[what]) {
      return refuse(ROOM);
    }
    int before = house.settings[what];
    house.settings[what] = v;
    return before;
  }

  public int come(int quarter, int sort, int n) {
    if (!isQuarter(quarter) || !house.hasSort(sort)) {
      return refuse(NOBODY);
    }
    if (n < 0) {
      return refuse(BELOW);
    }
    if (n > MOST_COME) {
      return refuse(ROOM);
    }
    int before = house.comersOf(sort, quarter);
    house.tellComers(sort, quarter, n);
    return before;
  }

  public int cost() {
    day.run(house);
    return day.allCost();
  }

  public int waited(int sort) {
    if (!house.hasSort(sort)) {
      return refuse(NOBODY);
    }
    day.run(house);
    return day.waitedBy[sort];
  }

  public int served(int sort) {
    if (!house.hasSort(sort)) {
      return refuse(NOBODY);
    }
    day.run(house);
    return day.leftBy[sort];
  }

  public int lost(int sort) {
    if (!house.hasSort(sort)) {
      return refuse(NOBODY);
    }
    day.run(house);
    return day.lostBy[sort];
  }

  public int strayed() {
    day.run(house);
    return day.strays;
  }

  public int longest(int lane) {
    if (!house.hasLane(lane)) {
      return refuse(NOBODY);
    }
    day.run(house);
    return day.lines[lane].most;
  }

  public int passed(int lane) {
    if (!house.hasLane(lane)) {
      return refuse(NOBODY);
    }
    day.run(house);
    return day.lines[lane].gone;
  }

  public int last() {
    day.run(house);
    return day.latestLeft < 0 ? NONE : day.latestLeft;
  }

  public int mean(int sort, int part) {
    if (!house.hasSort(sort)) {
      return refuse(NOBODY);
    }
    if (part < 0 || part > 1) {
      return refuse(OTHER);
    }
    day.run(house);
    int all = day.waitedBy[sort];
    int many = day.keptOf(sort);
    int shared = commonDivisor(all, many);
    if (many < 1 || shared < 1) {
      return part == 0 ? 0 : 1;
    }
    return part == 0 ? all / shared : many / shared;
  }

  public int bestWord() {
    return planner.wordOfLeastCost(day, house);
  }

  public int fewest(int most) {
    if (house.lanes < 1) {
      return refuse(STATE);
    }
    if (most < 0) {
      return refuse(BELOW);
    }
    return planner.lanesForCost(day, house, most);
  }

  public int edge() {
    return planner.switchThatParts(day, house);
  }

  public int signs() {
    return planner.settingOfLeastCost(day, house, SIGN);
  }

  public int bestRule() {
    return planner.settingOfLeastCost(day, house, RULE);
  }

  public int buys(int a, int b, int hundredths) {
    if (!house.hasSort(a) || !house.hasSort(b) || a == b) {
      return FAR_REFUSAL - refuse(NOBODY);
    }
    if (hundredths < 0) {
      return FAR_REFUSAL - refuse(BELOW);
    }
    if (hundredths > HUNDRED) {
      return FAR_REFUSAL - refuse(ROOM);
    }
    return planner.savedByBuying(day, house, a, b, hundredths);
  }

  public int fails(int sort, int quarter, int seconds) {
    if (!house.hasSort(sort) || !isQuarter(quarter)) {
      return FAR_REFUSAL - refuse(NOBODY);
    }
    if (seconds < 1) {
      return FAR_REFUSAL - refuse(BELOW);
    }
    if (seconds > MOST_NEED) {
      return FAR_REFUSAL - refuse(ROOM);
    }
    return planner.lostByFailing(day, house, sort, quarter, seconds);
  }

  public int weave() {
    return weaver.weaveNow(house);
  }

  public int order(int i) {
    if (i < -1) {
      return refuse(BELOW);
    }
    weaver.findBest(house);
    if (i == -1) {
      return weaver.leastWeave;
    }
    return house.hasLane(i) ? weaver.best[i] : NONE;
  }

  public int rests(int sort) {
    if (!house.hasSort(sort)) {
      return refuse(NOBODY);
    }
    rest.settle(house);
    return rest.at[sort];
  }

  public int row(int v) {
    if (v < 0) {
      return refuse(BELOW);
    }
    if (v > MOST_WAIT || waitsTold >= MOST_WAITS) {
      return refuse(ROOM);
    }
    waits[waitsTold] = v;
    waitsTold++;
    return waitsTold;
  }

  public int judge() {
    int told = waitsTold;
    waitsTold = 0;
    int both = Math.min(told, house.sorts);
    day.run(house);
    for (int sort = 0; sort < both; sort++) {
      if (waits[sort] != day.meanOf(sort)) {
        return sort;
      }
    }
    return told == house.sorts ? NONE : both;
  }

  public int image() {
    taken.copy(house);
    isTaken = true;
    return house.lanes;
  }

  public int on() {
    if (!isTaken) {
      return refuse(STATE);
    }
    house.copy(taken);
    return house.lanes;
  }

  public int count(int what) {
    switch (what) {
      case 0:
        return house.sorts;
      case 1:
        return house.lanes;
      case 2:
        return house.allComers();
      case 3:
        day.run(house);
        return day.allLeft();
      case 4:
        return house.changes();
      case 5:
        return waitsTold;
      case 6:
        return tape.size;
      default:
        return what > 10 && what <= 10 + KINDS_OF_REFUSAL ? refusals[what - 10] : NONE;
    }
  }

  private int refuse(int number) {
    int kind = -number;
    if (kind >= 1 && kind <= KINDS_OF_REFUSAL) {
      refusals[kind]++;
    }
    return number;
  }

  private static boolean isQuarter(int quarter) {
    return quarter >= 0 && quarter < QUARTERS;
  }

  private static boolean hasBit(int word, int sort) {
    return (word >> sort & 1) == 1;
  }

  private static int commonDivisor(int a, int b) {
    int greater = a;
    int less = b;
    for (int step = 0; step < EUCLID_STEPS && less != 0; step++) {
      int left = greater % less;
      greater = less;
      less = left;
    }
    return greater;
  }

  /** All that is told: sorts, lanes with their words, who comes, settings. */
  private static final class House {
    private static final int NOT_TOLD = -1;
    private static final int OWN = 0;

    int sorts;
    int lanes;
    final int[] seconds;
    final int[] worth;
    final int[] comers;
    /** Seconds needed in place of a sort's own, by sort and quarter; only a house in mind has any. */
    final int[] needs;
    final int[] words;
    final int[] settings;

    House() {
      sorts = 0;
      lanes = 0;
      seconds = new int[MOST_SORTS];
      worth = new int[MOST_SORTS];
      comers = new int[MOST_SORTS * QUARTERS];
      needs = new int[MOST_SORTS * QUARTERS];
      words = new int[MOST_LANES * QUARTERS];
      settings = new int[SETTINGS];
      for (int what = 0; what < SETTINGS; what++) {
        settings[what] = FIRST_SETTING[what];
      }
    }

    void copy(House from) {
      sorts = from.sorts;
      lanes = from.lanes;
      System.arraycopy(from.seconds, 0, seconds, 0, MOST_SORTS);
      System.arraycopy(from.worth, 0, worth, 0, MOST_SORTS);
      System.arraycopy(from.comers, 0, comers, 0, MOST_SORTS * QUARTERS);
      System.arraycopy(from.needs, 0, needs, 0, MOST_SORTS * QUARTERS);
      System.arraycopy(from.words, 0, words, 0, MOST_LANES * QUARTERS);
      System.arraycopy(from.settings, 0, settings, 0, SETTINGS);
    }

    boolean hasSort(int sort) {
      return sort >= 0 && sort < sorts;
    }

    boolean hasLane(int lane) {
      return lane >= 0 && lane < lanes;
    }

    boolean addSort(int itsSeconds, int itsWorth) {
      if (sorts >= MOST_SORTS || itsSeconds < 1 || itsSeconds > MOST_SECONDS || itsWorth < 1 || itsWorth > MOST_WORTH) {
        return false;
      }
      seconds[sorts] = itsSeconds;
      worth[sorts] = itsWorth;
      for (int quarter = 0; quarter < QUARTERS; quarter++) {
        comers[sorts * QUARTERS + quarter] = 0;
        needs[sorts * QUARTERS + quarter] = OWN;
      }
      sorts++;
      return true;
    }

    boolean addLane(int itsWord) {
      if (lanes >= MOST_LANES || itsWord < 0 || itsWord > MOST_WORD) {
        return false;
      }
      lanes++;
      tellWordAlone(lanes - 1, itsWord);
      return true;
    }

    boolean addComers(int quarter, int sort, int many) {
      if (!isQuarter(quarter) || !hasSort(sort) || many < 0 || many > MOST_COME) {
        return false;
      }
      tellComers(sort, quarter, many);
      return true;
    }

    boolean addChange(int quarter, int lane, int itsWord) {
      if (quarter < 1 || !isQuarter(quarter) || !hasLane(lane) || itsWord < 0 || itsWord > MOST_WORD) {
        return false;
      }
      tellWord(lane, quarter, itsWord);
      return true;
    }

    int comersOf(int sort, int quarter) {
      return hasSort(sort) && isQuarter(quarter) ? comers[sort * QUARTERS + quarter] : 0;
    }

    void tellComers(int sort, int quarter, int many) {
      if (hasSort(sort) && isQuarter(quarter)) {
        comers[sort * QUARTERS + quarter] = many;
      }
    }

    int allComers() {
      int all = 0;
      for (int sort = 0; sort < sorts; sort++) {
        for (int quarter = 0; quarter < QUARTERS; quarter++) {
          all += comers[sort * QUARTERS + quarter];
        }
      }
      return all;
    }

    int needOf(int sort, int quarter) {
      if (!hasSort(sort) || !isQuarter(quarter)) {
        return 0;
      }
      int told = needs[sort * QUARTERS + quarter];
      return told == OWN ? seconds[sort] : told;
    }

    void tellNeed(int sort, int quarter, int itsSeconds) {
      if (hasSort(sort) && isQuarter(quarter)) {
        needs[sort * QUARTERS + quarter] = itsSeconds;
      }
    }

    /** The word that a lane has in a quarter: the latest told up to it. */
    int wordOf(int lane, int quarter) {
      if (!hasLane(lane) || !isQuarter(quarter)) {
        return 0;
      }
      int found = words[lane * QUARTERS];
      for (int q = 1; q <= quarter; q++) {
        int told = words[lane * QUARTERS + q];
        found = told == NOT_TOLD ? found : told;
      }
      return found;
    }

    void tellWord(int lane, int quarter, int itsWord) {
      if (hasLane(lane) && isQuarter(quarter)) {
        words[lane * QUARTERS + quarter] = itsWord;
      }
    }

    /** A word from quarter 0 on, without changes. */
    void tellWordAlone(int lane, int itsWord) {
      if (lane < 0 || lane >= lanes) {
        return;
      }
      words[lane * QUARTERS] = itsWord;
      for (int quarter = 1; quarter < QUARTERS; quarter++) {
        words[lane * QUARTERS + quarter] = NOT_TOLD;
      }
    }

    int changes() {
      int all = 0;
      for (int lane = 0; lane < lanes; lane++) {
        for (int quarter = 1; quarter < QUARTERS; quarter++) {
          all += words[lane * QUARTERS + quarter] == NOT_TOLD ? 0 : 1;
        }
      }
      return all;
    }

    /** Of each word told only the least sort is left. */
    void narrowWords() {
      for (int i = 0; i < lanes * QUARTERS; i++) {
        if (words[i] != NOT_TOLD) {
          words[i] = words[i] & -words[i];
        }
      }
    }
  }

  /** The bytes fed, and the statements in them. */
  private static final class Tape {
    private static final String SORT_FORM = "n,n;";
    private static final String LANE_FORM = "n;";
    private static final String DIGITS_FORM = "dd,n;";
    private static final int MOST_NUMBERS = 3;

    int size;
    private final int[] bytes;
    private final int[] numbers;
    private final House scratch;
    private int place;
    private int told;

    Tape() {
      size = 0;
      bytes = new int[MOST_BYTES];
      numbers = new int[MOST_NUMBERS];
      scratch = new House();
      place = 0;
      told = 0;
    }

    int take(int n, long more) {
      for (int i = 0; i < n && size < MOST_BYTES; i++) {
        bytes[size] = (int) (more >> 8 * i & 255);
        size++;
      }
      return size;
    }

    /** All statements come into the house, or none; the tape is empty behind it. */
    int build(House house) {
      int answer = isWellFormed() ? tellAll(house) : BAD_FORM - place;
      size = 0;
      return answer;
    }

    /** Whether the whole tape is statements; if not, place is where it goes wrong. */
    private boolean isWellFormed() {
      place = 0;
      for (int n = 0; n < MOST_BYTES; n++) {
        if (!readStatement()) {
          return false;
        }
        if (place >= size) {
          return true;
        }
      }
      return false;
    }

    private int tellAll(House house) {
      int statements = 0;
      scratch.copy(house);
      place = 0;
      for (int n = 0; n < MOST_BYTES && place < size; n++) {
        int start = place;
        if (!readStatement() || !tell(at(start))) {
          return BAD_SENSE - start;
        }
        statements++;
      }
      house.copy(scratch);
      return statements;
    }

    private boolean tell(int letter) {
      switch (letter) {
        case 's':
          return scratch.addSort(numbers[0], numbers[1]);
        case 'l':
          return scratch.addLane(numbers[0]);
        case 'a':
          return scratch.addComers(numbers[0], numbers[1], numbers[2]);
        case 'q':
          return scratch.addChange(numbers[0], numbers[1], numbers[2]);
        default:
          return false;
      }
    }

    /** Reads one statement from place on; if it can't, place is the first byte that doesn't fit. */
    private boolean readStatement() {
      String form = formOf(at(place));
      if (form.isEmpty()) {
        return false;
      }
      place++;
      told = 0;
      for (int i = 0; i < form.length(); i++) {
        if (!readPart(form.charAt(i))) {
          return false;
        }
      }
      return true;
    }

    private static String formOf(int letter) {
      switch (letter) {
        case 's':
          return SORT_FORM;
        case 'l':
          return LANE_FORM;
        case 'a':
        case 'q':
          return DIGITS_FORM;
        default:
          return "";
      }
    }

    private boolean readPart(char part) {
      if (part == 'd') {
        return readNumber(1);
      }
      if (part == 'n') {
        return readNumber(2);
      }
      if (at(place) != part) {
        return false;
      }
      place++;
      return true;
    }

    private boolean readNumber(int mostDigits) {
      if (!isDigit(at(place)) || told >= MOST_NUMBERS) {
        return false;
      }
      int number = 0;
      for (int i = 0; i < mostDigits && isDigit(at(place)); i++) {
        number = number * 10 + at(place) - '0';
        place++;
      }
      numbers[told] = number;
      told++;
      return true;
    }

    private int at(int i) {
      return i >= 0 && i < size && i < MOST_BYTES ? bytes[i] : -1;
    }

    private static boolean isDigit(int sign) {
      return sign >= '0' && sign <= '9';
    }
  }

  /** Those that come in a day, in the order in which they choose. */
  private static final class Crowd {
    int size;
    final int[] sort;
    final int[] came;
    final int[] need;
    final int[] behind;
    final boolean[] strayed;
    private final int[] quarter;
    private final int[] sooner;

    Crowd() {
      size = 0;
      sort = new int[MOST_COMERS];
      came = new int[MOST_COMERS];
      need = new int[MOST_COMERS];
      behind = new int[MOST_COMERS];
      strayed = new boolean[MOST_COMERS];
      quarter = new int[MOST_SORTS];
      sooner = new int[MOST_SORTS];
    }

    void gather(House house) {
      size = 0;
      for (int s = 0; s < MOST_SORTS; s++) {
        quarter[s] = 0;
        sooner[s] = 0;
      }
      int all = Math.min(house.allComers(), MOST_COMERS);
      for (int n = 0; n < all; n++) {
        addNext(house);
      }
    }

    private void addNext(House house) {
      int first = -1;
      int itsSecond = COMING_SECONDS;
      for (int s = 0; s < house.sorts; s++) {
        int second = nextSecond(house, s);
        if (second < itsSecond) {
          first = s;
          itsSecond = second;
        }
      }
      if (first < 0 || size >= MOST_COMERS) {
        return;
      }
      sort[size] = first;
      came[size] = itsSecond;
      need[size] = house.needOf(first, quarter[first]);
      behind[size] = -1;
      strayed[size] = false;
      sooner[first]++;
      size++;
    }

    /** When the next of a sort comes; past the quarters if none does. */
    private int nextSecond(House house, int s) {
      for (int n = 0; n <= QUARTERS && quarter[s] < QUARTERS; n++) {
        int many = house.comers[s * QUARTERS + quarter[s]];
        if (many > 0 && sooner[s] < many) {
          return quarter[s] * QUARTER_SECONDS + sooner[s] * QUARTER_SECONDS / many;
        }
        quarter[s]++;
        sooner[s] = 0;
      }
      return COMING_SECONDS;
    }
  }

  /** Those who stand in one lane on a day; the first may be being served, or done. */
  private static final class Line {
    int standing;
    int load;
    int done;
    int most;
    int gone;
    boolean isServing;
    int servedSort;
    int first;
    int word;
    int sortsInWord;
    int shutUntil;
    private int end;

    Line() {
      servedSort = -1;
      first = -1;
      end = -1;
    }

    void clear() {
      standing = 0;
      load = 0;
      done = 0;
      most = 0;
      gone = 0;
      isServing = false;
      servedSort = -1;
      first = -1;
      word = 0;
      sortsInWord = 0;
      shutUntil = 0;
      end = -1;
    }

    void join(Crowd crowd, int car) {
      if (end >= 0 && standing > 0) {
        crowd.behind[end] = car;
      } else {
        first = car;
      }
      end = car;
      standing++;
      load += crowd.need[car];
    }

    void serve(Crowd crowd, int until) {
      if (first >= 0) {
        load -= crowd.need[first];
        servedSort = crowd.sort[first];
        done = until;
        isServing = true;
      }
    }

    void leave(Crowd crowd) {
      if (first >= 0) {
        first = crowd.behind[first];
        standing--;
        gone++;
        isServing = false;
      }
    }

    int loadAt(int second) {
      return isServing && done > second ? load + done - second : load;
    }
  }

  /** One day of a house, run by seconds. */
  private static final class Day {
    final int[] waitedBy;
    final int[] leftBy;
    final int[] lostBy;
    final Line[] lines;
    int strays;
    int latestLeft;
    private final Crowd crowd;
    private House house;
    private int quarter;
    private int comer;
    private int strayCount;

    Day() {
      waitedBy = new int[MOST_SORTS];
      leftBy = new int[MOST_SORTS];
      lostBy = new int[MOST_SORTS];
      lines = new Line[MOST_LANES];
      for (int lane = 0; lane < MOST_LANES; lane++) {
        lines[lane] = new Line();
      }
      crowd = new Crowd();
      house = new House();
      latestLeft = -1;
    }

    void run(House told) {
      begin(told);
      crowd.gather(told);
      int second = 0;
      for (int step = 0; step < DAY_SECONDS && second < DAY_SECONDS; step++) {
        enterQuarter(second);
        for (int n = comer; n < crowd.size && crowd.came[n] <= second; n++) {
          admit(n, second);
          comer = n + 1;
        }
        for (int lane = 0; lane < house.lanes; lane++) {
          leaveLine(lines[lane], second);
          serveLine(lines[lane], second);
        }
        second = nextSecond(second);
      }
      for (int lane = 0; lane < house.lanes; lane++) {
        closeLine(lines[lane]);
      }
    }

    int allCost() {
      int all = 0;
      for (int sort = 0; sort < house.sorts; sort++) {
        all += waitedBy[sort] * house.worth[sort] + LOST_COST * lostBy[sort];
      }
      return all;
    }

    int allLeft() {
      int all = 0;
      for (int sort = 0; sort < house.sorts; sort++) {
        all += leftBy[sort];
      }
      return all;
    }

    /** How many of a sort were not lost. */
    int keptOf(int sort) {
      int all = 0;
      for (int quarter = 0; quarter < QUARTERS; quarter++) {
        all += house.comersOf(sort, quarter);
      }
      return all - lostBy[sort];
    }

    int meanOf(int sort) {
      int many = keptOf(sort);
      return many < 1 ? 0 : waitedBy[sort] / many;
    }

    private void begin(House told) {
      house = told;
      quarter = -1;
      comer = 0;
      strayCount = 0;
      strays = 0;
      latestLeft = -1;
      for (int sort = 0; sort < MOST_SORTS; sort++) {
        waitedBy[sort] = 0;
        leftBy[sort] = 0;
        lostBy[sort] = 0;
      }
      for (int lane = 0; lane < MOST_LANES; lane++) {
        lines[lane].clear();
      }
    }

    private void enterQuarter(int second) {
      int itsQuarter = Math.min(second / QUARTER_SECONDS, QUARTERS - 1);
      if (itsQuarter == quarter) {
        return;
      }
      quarter = itsQuarter;
      for (int lane = 0; lane < house.lanes; lane++) {
        int itsWord = house.wordOf(lane, quarter);
        boolean isChanged = quarter > 0 && house.wordOf(lane, quarter - 1) != itsWord;
        lines[lane].word = itsWord;
        lines[lane].sortsInWord = Integer.bitCount(itsWord);
        lines[lane].shutUntil = isChanged ? quarter * QUARTER_SECONDS + house.settings[SHUT] : 0;
      }
    }

    /** The next second at which one may come, leave or be served; nothing changes in those between. */
    private int nextSecond(int second) {
      int next = DAY_SECONDS;
      if (comer < crowd.size) {
        next = Math.min(next, crowd.came[comer]);
      }
      int freed = latestLeft < 0 ? 0 : latestLeft + house.settings[GAP];
      for (int lane = 0; lane < house.lanes; lane++) {
        if (lines[lane].isServing) {
          next = Math.min(next, Math.max(lines[lane].done, freed));
        }
      }
      return Math.max(next, second + 1);
    }

    private void admit(int car, int second) {
      boolean isStraying = countStray();
      int lane = choose(crowd.sort[car], second);
      if (lane < 0) {
        lostBy[crowd.sort[car]]++;
        return;
      }
      int next = lane + 1 < house.lanes ? lane + 1 : 0;
      if (isStraying && next != lane && hasPlace(lines[next])) {
        crowd.strayed[car] = true;
        strays++;
        lane = next;
      }
      lines[lane].join(crowd, car);
    }

    private boolean countStray() {
      strayCount += Math.max(house.settings[STRAYS] - SIGN_EFFECT * house.settings[SIGN], 0);
      if (strayCount < HUNDRED) {
        return false;
      }
      strayCount -= HUNDRED;
      return true;
    }

    private int choose(int sort, int second) {
      int best = -1;
      for (int lane = 0; lane < house.lanes; lane++) {
        Line line = lines[lane];
        boolean isOpen = hasBit(line.word, sort) && hasPlace(line) && second >= line.shutUntil;
        if (isOpen && (best < 0 || isBetter(line, lines[best], second))) {
          best = lane;
        }
      }
      return best;
    }

    private boolean hasPlace(Line line) {
      return line.standing < house.settings[LONGEST];
    }

    /** Whether the rule takes a lane rather than one of a less number. */
    private boolean isBetter(Line line, Line than, int second) {
      switch (house.settings[RULE]) {
        case APART:
          return isMoreApart(line, than);
        case QUICK:
          return line.loadAt(second) < than.loadAt(second);
        case FIRST:
          return false;
        case LAST:
          return true;
        default:
          return line.standing < than.standing;
      }
    }

    private static boolean isMoreApart(Line line, Line than) {
      boolean isAsNarrow = line.sortsInWord == than.sortsInWord;
      return line.sortsInWord < than.sortsInWord || isAsNarrow && line.standing < than.standing;
    }

    private void leaveLine(Line line, int second) {
      boolean isRoadFree = latestLeft < 0 || second - latestLeft >= house.settings[GAP];
      if (line.isServing && line.first >= 0 && line.done <= second && isRoadFree) {
        int sort = crowd.sort[line.first];
        leftBy[sort]++;
        waitedBy[sort] += second - line.done;
        latestLeft = second;
        line.leave(crowd);
      }
    }

    private void serveLine(Line line, int second) {
      if (!line.isServing && line.first >= 0) {
        waitedBy[crowd.sort[line.first]] += second - crowd.came[line.first];
        line.serve(crowd, second + timeFor(line, line.first));
      }
      line.most = Math.max(line.most, line.standing);
    }

    private int timeFor(Line line, int car) {
      int sort = crowd.sort[car];
      int time = crowd.need[car];
      if (line.servedSort >= 0 && line.servedSort != sort) {
        time += house.settings[SWITCH];
      }
      if (crowd.strayed[car] && !hasBit(line.word, sort)) {
        time += house.settings[EXTRA];
      }
      return time;
    }

    /** What those still in the lane have waited by the end. */
    private void closeLine(Line line) {
      int car = line.first;
      for (int n = 0; n < line.standing && car >= 0; n++) {
        boolean isServed = n == 0 && line.isServing;
        int since = isServed ? Math.min(line.done, DAY_SECONDS) : crowd.came[car];
        waitedBy[crowd.sort[car]] += DAY_SECONDS - since;
        car = crowd.behind[car];
      }
    }
  }

  /** What days would cost in a house in mind. */
  private static final class Planner {
    private final House trial;

    Planner() {
      trial = new House();
    }

    int wordOfLeastCost(Day day, House now) {
      day.run(now);
      int least = day.allCost();
      int answer = NONE;
      for (int lane = 0; lane < now.lanes; lane++) {
        for (int itsWord = 0; itsWord <= MOST_WORD; itsWord++) {
          trial.copy(now);
          trial.tellWordAlone(lane, itsWord);
          day.run(trial);
          int then = day.allCost();
          if (then < least) {
            least = then;
            answer = HUNDRED * lane + itsWord;
          }
        }
      }
      return answer;
    }

    int lanesForCost(Day day, House now, int most) {
      trial.copy(now);
      for (int lanes = 1; lanes <= now.lanes; lanes++) {
        trial.lanes = lanes;
        day.run(trial);
        if (day.allCost() <= most) {
          return lanes;
        }
      }
      return NONE;
    }

    int switchThatParts(Day day, House now) {
      for (int seconds = 0; seconds <= MOST_SETTING[SWITCH]; seconds++) {
        trial.copy(now);
        trial.settings[SWITCH] = seconds;
        day.run(trial);
        int mixed = day.allCost();
        trial.narrowWords();
        day.run(trial);
        if (mixed > day.allCost()) {
          return seconds;
        }
      }
      return NONE;
    }

    int settingOfLeastCost(Day day, House now, int what) {
      trial.copy(now);
      int answer = NONE;
      int least = 0;
      for (int v = LEAST_SETTING[what]; v <= MOST_SETTING[what]; v++) {
        trial.settings[what] = v;
        day.run(trial);
        int then = day.allCost();
        if (answer == NONE || then < least) {
          least = then;
          answer = v;
        }
      }
      return answer;
    }

    int savedByBuying(Day day, House now, int from, int to, int hundredths) {
      trial.copy(now);
      for (int quarter = 0; quarter < QUARTERS; quarter++) {
        int all = now.comersOf(from, quarter);
        int buyers = all * hundredths / HUNDRED;
        trial.tellComers(from, quarter, all - buyers);
        trial.tellComers(to, quarter, now.comersOf(to, quarter) + buyers);
      }
      day.run(now);
      int costNow = day.allCost();
      day.run(trial);
      return costNow - day.allCost();
    }

    int lostByFailing(Day day, House now, int sort, int quarter, int seconds) {
      trial.copy(now);
      trial.tellNeed(sort, quarter, seconds);
      day.run(now);
      int costNow = day.allCost();
      day.run(trial);
      return day.allCost() - costNow;
    }
  }

  /** How unlike the words of lanes beside each other are, and the order in which they are least so. */
  private static final class Weaver {
    final int[] best;
    int leastWeave;
    private final int[] lanes;

    Weaver() {
      best = new int[MOST_LANES];
      lanes = new int[MOST_LANES];
      leastWeave = 0;
    }

    int weaveNow(House house) {
      startOrder();
      return weaveOf(house);
    }

    void findBest(House house) {
      startOrder();
      keep(weaveOf(house));
      for (int n = 0; n < MOST_ORDERS && nextOrder(house.lanes); n++) {
        int weave = weaveOf(house);
        if (weave < leastWeave) {
          keep(weave);
        }
      }
    }

    private void startOrder() {
      for (int i = 0; i < MOST_LANES; i++) {
        lanes[i] = i;
      }
    }

    private void keep(int weave) {
      leastWeave = weave;
      System.arraycopy(lanes, 0, best, 0, MOST_LANES);
    }

    private int weaveOf(House house) {
      int all = 0;
      for (int i = 0; i + 1 < house.lanes; i++) {
        all += Integer.bitCount(house.wordOf(lanes[i], 0) ^ house.wordOf(lanes[i + 1], 0));
      }
      return all;
    }

    /** The next order by numbers of the first so many lanes; none behind the last. */
    private boolean nextOrder(int many) {
      int fall = many - 2;
      while (fall >= 0 && lanes[fall] > lanes[fall + 1]) {
        fall--;
      }
      if (fall < 0) {
        return false;
      }
      int above = many - 1;
      while (above > fall && lanes[above] < lanes[fall]) {
        above--;
      }
      swap(fall, above);
      int low = fall + 1;
      int high = many - 1;
      while (low < high) {
        swap(low, high);
        low++;
        high--;
      }
      return true;
    }

    private void swap(int i, int j) {
      int kept = lanes[i];
      lanes[i] = lanes[j];
      lanes[j] = kept;
    }
  }

  /** Where sorts end that each go to the lane with the least to pay for. */
  private static final class Rest {
    final int[] at;

    Rest() {
      at = new int[MOST_SORTS];
    }

    void settle(House house) {
      for (int sort = 0; sort < house.sorts; sort++) {
        at[sort] = firstLane(house, sort);
      }
      boolean isMoving = true;
      for (int round = 0; round < REST_ROUNDS && isMoving; round++) {
        isMoving = goRound(house);
      }
    }

    private static int firstLane(House house, int sort) {
      for (int lane = 0; lane < house.lanes; lane++) {
        if (hasBit(house.wordOf(lane, 0), sort)) {
          return lane;
        }
      }
      return NONE;
    }

    private boolean goRound(House house) {
      boolean isMoving = false;
      for (int sort = 0; sort < house.sorts; sort++) {
        int to = leastLane(house, sort);
        isMoving = isMoving || to != at[sort];
        at[sort] = to;
      }
      return isMoving;
    }

    private int leastLane(House house, int sort) {
      int best = NONE;
      int least = 0;
      for (int lane = 0; lane < house.lanes; lane++) {
        if (hasBit(house.wordOf(lane, 0), sort)) {
          int sum = sumWith(house, lane, sort);
          if (best == NONE || sum < least) {
            least = sum;
            best = lane;
          }
        }
      }
      return best;
    }

    private int sumWith(House house, int lane, int sort) {
      int sum = 0;
      for (int other = 0; other < house.sorts; other++) {
        if (other == sort || at[other] == lane) {
          sum += house.comersOf(other, 0) * house.seconds[other];
        }
      }
      return sum;
    }
  }
}
