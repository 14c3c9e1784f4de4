import java.util.Arrays;

/**
 * A house for power from kites: a kite told by a text, winds by heights and hours, safe acts, the
 * loop that gives most, rows judged, rules flown, hours planned, kites side by side, laws of heights
 * and a hidden share of the wind. The words are those of the document.
 */
public final class KitePower {
  public static final int NONE = -1;
  public static final int RANGE = -2;
  public static final int FULL = -3;
  public static final int STATE = -4;

  /** Told instead of a number of work, which may itself be small and below 0. */
  private static final int NO_WORK = -100000000;
  private static final int NO_PLAN = -2000000000;
  private static final int SLOTS = 6;
  private static final int MOST_COST = 1000000;
  private static final int MOST_ROUNDS = 100000;
  private static final int USUAL_SHARE = 10;

  private final Tape tape;
  private final Kite kite;
  private final Air air;
  private final Rules rules;
  private final Hours hours;
  private final Row latestLoop;
  private final Row judgedRow;
  private final Row[] kept;
  private final Flight flight;
  private final Field field;
  private final Laws laws;
  private final Readings readings;
  /** Whether the judged row is one of the kite that is told now. */
  private boolean judgedOfThisKite;
  private int tired;
  private int share;

  public KitePower() {
    tape = new Tape();
    kite = new Kite();
    air = new Air(kite);
    rules = new Rules(kite);
    hours = new Hours(kite, air);
    latestLoop = new Row(Kite.MOST_STATES);
    judgedRow = new Row(Row.MOST_TOLD);
    kept = new Row[SLOTS];
    for (int i = 0; i < SLOTS; i++) {
      kept[i] = new Row(Row.MOST_TOLD);
    }
    flight = new Flight(kite, air, rules);
    field = new Field(kite);
    laws = new Laws();
    readings = new Readings(kite, air);
    share = USUAL_SHARE;
  }

  public int feed(int a, int b, int c, int d, int e) {
    if (!tape.hasRoom(20)) {
      return FULL;
    }
    tape.addInt(a);
    tape.addInt(b);
    tape.addInt(c);
    tape.addInt(d);
    tape.addInt(e);
    return tape.length;
  }

  public int end(int n) {
    if (n < 0 || n > tape.length) {
      return NONE;
    }
    tape.length = n;
    return n;
  }

  // ---- texts

  public int kite() {
    int clauses = kite.takeText(tape);
    tape.length = 0;
    if (clauses < 0) {
      return NONE;
    }
    rules.forget();
    for (int i = 0; i < SLOTS; i++) {
      kept[i].length = 0;
    }
    judgedOfThisKite = false;
    field.forget();
    readings.forget();
    hours.forgetAll();
    return clauses;
  }

  public int rules() {
    int lines = rules.takeText(tape);
    tape.length = 0;
    return lines;
  }

  public int fault(int what) {
    if (what == 0) {
      return tape.faultKind;
    }
    return what == 1 ? tape.faultPlace : NONE;
  }

  public int told(int what) {
    return what == 11 ? rules.lines : kite.fact(what);
  }

  // ---- states, winds

  public int state(int s, int what) {
    if (!kite.hasState(s)) {
      return NONE;
    }
    switch (what) {
      case 0:
        return kite.columns[s];
      case 1:
        return kite.rows[s];
      case 2:
        return kite.ropes[s];
      case 3:
        return kite.heights[s];
      case 4:
        return kite.bands[s];
      default:
        return NONE;
    }
  }

  public int leads(int s, int act) {
    return kite.hasState(s) && kite.hasAct(act) ? kite.goal(s, act) : RANGE;
  }

  public int wind(int told, int hour, int band, int low, int high) {
    boolean fits = isHour(hour) && isBand(band) && isWithin(low, 0, high) && high <= Air.MOST_WIND;
    if (!fits || !isWithin(told, air.latestStep, Air.MOST_STEP)) {
      return RANGE;
    }
    if (air.count >= Air.MOST_TOLD) {
      return FULL;
    }
    air.take(told, hour, band, low, high);
    hours.forgetHour(hour);
    return air.count;
  }

  public int winds(int hour, int band, int known) {
    return isHour(hour) && isBand(band) && isStep(known) ? air.knownAt(hour, band, known) : RANGE;
  }

  public int pull(int s, int act, int w) {
    boolean fits = kite.hasState(s) && kite.hasAct(act) && isWithin(w, 0, Air.MOST_WIND);
    return fits ? kite.pullOf(s, act, w) : RANGE;
  }

  public int safe(int s, int act, int hour) {
    if (!canAsk(s, act, hour)) {
      return RANGE;
    }
    return air.isSafe(s, act, hour) ? 1 : 0;
  }

  public int gives(int s, int act, int hour) {
    return canAsk(s, act, hour) ? air.sureWork(s, act, hour) : NO_WORK;
  }

  // ---- loops

  public int best(int hour) {
    if (!isHour(hour)) {
      return RANGE;
    }
    Row loop = hours.loopAt(hour);
    if (loop.length == 0) {
      return NONE;
    }
    latestLoop.copyFrom(loop);
    return loop.length;
  }

  public int looped(int what) {
    if (latestLoop.length == 0) {
      return NO_WORK;
    }
    if (what == 0) {
      return latestLoop.worth;
    }
    if (what == 1) {
      return latestLoop.states[0];
    }
    return what >= 10 && what - 10 < latestLoop.length ? latestLoop.acts[what - 10] : NO_WORK;
  }

  public int judge(int s, int hour) {
    int safeActs = judgeTape(s, hour);
    tape.length = 0;
    return safeActs;
  }

  private int judgeTape(int s, int hour) {
    if (!kite.hasState(s) || !isHour(hour)) {
      return RANGE;
    }
    if (!judgedRow.takeActs(tape, kite)) {
      return NONE;
    }
    judgedRow.walk(air, kite, s, hour);
    judgedOfThisKite = true;
    return judgedRow.safeActs;
  }

  public int judged(int what) {
    if (judgedRow.length == 0) {
      return NONE;
    }
    switch (what) {
      case 0:
        return judgedRow.end;
      case 1:
        return judgedRow.won;
      case 2:
        return judgedRow.spent;
      case 3:
        return judgedRow.greatest;
      case 4:
        return judgedRow.isLoop ? 1 : 0;
      default:
        return NONE;
    }
  }

  public int keep(int slot) {
    if (!isSlot(slot)) {
      return RANGE;
    }
    if (!judgedOfThisKite || !judgedRow.isLoop) {
      return STATE;
    }
    kept[slot].copyFrom(judgedRow);
    return judgedRow.length;
  }

  public int fly(int s, int hour, int ticks, int each, boolean byHigh) {
    boolean fits = kite.hasState(s) && isHour(hour) && isWithin(ticks, 1, Flight.MOST_TICKS);
    return fits && isEach(each) ? flight.run(s, hour, ticks, each, byHigh) : RANGE;
  }

  public int flown(int what) {
    if (!flight.wasRun) {
      return NO_WORK;
    }
    switch (what) {
      case 0:
        return flight.fate;
      case 1:
        return flight.work;
      case 2:
        return flight.end;
      default:
        return what >= 10 && what - 10 < flight.done ? flight.acts[what - 10] : NO_WORK;
    }
  }

  public int held(int hour) {
    return isHour(hour) ? flight.countHeld(hour) : RANGE;
  }

  public int tired(int n) {
    if (!isWithin(n, 0, MOST_COST)) {
      return RANGE;
    }
    int before = tired;
    tired = n;
    return before;
  }

  public int rounds(int slot, int hour, int bound) {
    if (!isSlot(slot) || !isHour(hour) || !isWithin(bound, 0, MOST_COST)) {
      return RANGE;
    }
    if (kept[slot].length == 0) {
      return STATE;
    }
    if (tired > bound) {
      return 0;
    }
    int each = kept[slot].tiring(air, kite, hour);
    return each > 0 ? Math.min((bound - tired) / each, MOST_ROUNDS) : MOST_ROUNDS;
  }

  // ---- hours, fields, laws

  public int plan(int from, int to, int each, int launch, int land, int fall) {
    boolean fits = isHour(from) && isHour(to) && from <= to && isEach(each);
    if (!fits || !isCost(launch) || !isCost(land) || !isCost(fall)) {
      return NO_PLAN;
    }
    hours.weigh(from, to, each, fall);
    return hours.choose(launch, land);
  }

  public int planned(int hour) {
    return hours.isPlanned(hour) ? hours.flown[hour] : NONE;
  }

  public int apart(int slot, int x, int other, int y, int k) {
    if (!canPair(slot, x, other, y) || !isWithin(k, 0, Row.MOST_TOLD - 1)) {
      return RANGE;
    }
    return areKept(slot, other) ? field.nearest(kept[slot], kept[other], y - x, k) : STATE;
  }

  public int shift(int slot, int x, int other, int y) {
    if (!canPair(slot, x, other, y)) {
      return RANGE;
    }
    return areKept(slot, other) ? field.bestShift(kept[slot], kept[other], y - x) : STATE;
  }

  public int stand(int x, int slot) {
    if (!isSite(x) || !isSlot(slot)) {
      return RANGE;
    }
    if (kept[slot].length == 0) {
      return STATE;
    }
    return field.count < Field.MOST_STANDS ? field.add(x, kept[slot]) : FULL;
  }

  public int field() {
    return field.chooseBest();
  }

  public int fielded() {
    return field.chosen;
  }

  public int law(int from, int to, int height) {
    if (!isHour(from) || !isHour(to) || from > to || !isWithin(height, 0, Laws.MOST_HEIGHT)) {
      return RANGE;
    }
    return laws.count < Laws.MOST_LAWS ? laws.add(from, to, height) : FULL;
  }

  public int breach(int slot, int hour, int each, int ticks) {
    boolean fits = isSlot(slot) && isHour(hour) && isEach(each);
    if (!fits || !isWithin(ticks, 1, Laws.MOST_TICKS)) {
      return RANGE;
    }
    return kept[slot].length > 0 ? laws.firstBreach(kept[slot], kite, hour, each, ticks) : STATE;
  }

  // ---- hidden

  public int hidden(int n) {
    if (!isWithin(n, 0, Readings.MOST_SHARE)) {
      return RANGE;
    }
    int before = share;
    share = n;
    return before;
  }

  public int pulls(int s, int act, int hour) {
    return canAsk(s, act, hour) ? air.sharedPull(s, act, hour, share) : RANGE;
  }

  public int read(int told, int s, int act, int hour, int low, int high) {
    if (!canAsk(s, act, hour) || !canRead(told, low, high)) {
      return RANGE;
    }
    return readings.count < Readings.MOST_READ
        ? readings.add(told, s, act, hour, low, high) : FULL;
  }

  public int right(int told, int k, int low, int high) {
    if (!isWithin(k, 0, readings.count - 1) || !canRead(told, low, high)) {
      return RANGE;
    }
    return readings.rightings < Readings.MOST_RIGHTINGS
        ? readings.putRight(told, k, low, high) : FULL;
  }

  public int fit(int known) {
    return isStep(known) ? readings.fittingShares(known) : RANGE;
  }

  public int next(int s, int hour) {
    return kite.hasState(s) && isHour(hour) ? readings.bestNext(s, hour) : RANGE;
  }

  public int count(int what) {
    switch (what) {
      case 0:
        return kite.states;
      case 1:
        return air.count;
      case 2:
        return field.count;
      case 3:
        return laws.count;
      case 4:
        return readings.count;
      case 5:
        return readings.rightings;
      case 6:
        return tired;
      case 7:
        return tape.length;
      default:
        return what >= 10 && isSlot(what - 10) ? kept[what - 10].length : NONE;
    }
  }

  // ---- what numbers can be

  private boolean canAsk(int s, int act, int hour) {
    return kite.hasState(s) && kite.hasAct(act) && isHour(hour);
  }

  private boolean canRead(int told, int low, int high) {
    boolean isSpan = isWithin(low, 0, high) && high <= Readings.MOST_PULL;
    return isSpan && isWithin(told, readings.latestStep, Air.MOST_STEP);
  }

  private boolean canPair(int slot, int x, int other, int y) {
    return isSlot(slot) && isSite(x) && isSlot(other) && isSite(y);
  }

  private boolean areKept(int slot, int other) {
    return kept[slot].length > 0 && kept[other].length > 0;
  }

  private static boolean isWithin(int n, int least, int most) {
    return n >= least && n <= most;
  }

  private static boolean isHour(int n) {
    return isWithin(n, 0, Air.HOURS - 1);
  }

  private static boolean isBand(int n) {
    return isWithin(n, 0, Kite.BANDS - 1);
  }

  private static boolean isStep(int n) {
    return isWithin(n, 0, Air.MOST_STEP);
  }

  private static boolean isSlot(int n) {
    return isWithin(n, 0, SLOTS - 1);
  }

  private static boolean isSite(int n) {
    return isWithin(n, 0, Field.MOST_SITE);
  }

  private static boolean isEach(int n) {
    return isWithin(n, 1, 60);
  }

  private static boolean isCost(int n) {
    return isWithin(n, 0, MOST_COST);
  }

  /** The bytes that were fed, the token that is read now, and the fault of the latest text. */
  private static final class Tape {
    static final int ROOM = 800;
    static final int FAULT_SYNTAX = 1;
    static final int FAULT_RANGE = 2;
    static final int FAULT_TWICE = 3;
    static final int FAULT_ROOM = 4;
    private static final int LONGEST_WORD = 8;
    private static final int LONGEST_NUMBER = 5;
    private static final int TEXT_END = 0;
    private static final int WORD = 1;
    private static final int NUMBER = 2;
    private static final int SEMICOLON = 3;
    private static final int NO_TOKEN = 4;

    private final byte[] bytes = new byte[ROOM];
    int length;
    int faultKind;
    int faultPlace = NONE;
    /** The value of the token, if it is a number. */
    int number;
    private int token;
    private int start;
    private int at;

    boolean hasRoom(int more) {
      return length + more <= ROOM;
    }

    void addInt(int four) {
      for (int bits = 24; bits >= 0 && length < ROOM; bits -= 8) {
        bytes[length] = (byte) (four >> bits);
        length++;
      }
    }

    int byteAt(int i) {
      return i >= 0 && i < length ? bytes[i] & 255 : NONE;
    }

    void startText() {
      at = 0;
      faultKind = 0;
      faultPlace = NONE;
    }

    void advance() {
      while (at < length && isBlank(bytes[at])) {
        at++;
      }
      start = at;
      if (at >= length) {
        token = TEXT_END;
      } else if (isLetter(bytes[at])) {
        takeWord();
      } else if (isDigit(bytes[at])) {
        takeNumber();
      } else {
        token = bytes[at] == ';' ? SEMICOLON : NO_TOKEN;
        at++;
      }
    }

    private void takeWord() {
      while (at < length && isLetter(bytes[at])) {
        at++;
      }
      token = at - start <= LONGEST_WORD ? WORD : NO_TOKEN;
    }

    private void takeNumber() {
      number = 0;
      while (at < length && isDigit(bytes[at])) {
        // a longer run is no token, and must not overflow
        if (at - start < LONGEST_NUMBER) {
          number = number * 10 + bytes[at] - '0';
        }
        at++;
      }
      token = at - start <= LONGEST_NUMBER ? NUMBER : NO_TOKEN;
    }

    boolean isAtEnd() {
      return token == TEXT_END;
    }

    boolean isSemicolon() {
      return token == SEMICOLON;
    }

    /** Which of the words (one blank between two) the token is, or NONE. */
    int wordAmong(String words) {
      if (token != WORD) {
        return NONE;
      }
      int which = 0;
      int letter = start;
      boolean same = true;
      for (int i = 0; i <= words.length(); i++) {
        if (i == words.length() || words.charAt(i) == ' ') {
          if (same && letter == at) {
            return which;
          }
          which++;
          letter = start;
          same = true;
        } else {
          same = same && letter < at && bytes[letter] == words.charAt(i);
          letter++;
        }
      }
      return NONE;
    }

    /** Whether the token is a number within the bounds; marks the fault, if it isn't. */
    boolean isNumberWithin(int least, int most) {
      if (token != NUMBER) {
        return fails(FAULT_SYNTAX);
      }
      return isWithin(number, least, most) || fails(FAULT_RANGE);
    }

    /** Marks a fault at the token; always false, for the caller to hand on. */
    boolean fails(int kind) {
      faultKind = kind;
      faultPlace = start;
      return false;
    }

    private static boolean isBlank(int sign) {
      return sign == 32 || sign == 10;
    }

    private static boolean isLetter(int sign) {
      return sign >= 'a' && sign <= 'z';
    }

    private static boolean isDigit(int sign) {
      return sign >= '0' && sign <= '9';
    }
  }

  /** The kite as told: its numbers, its states, and what an act does in a state by a wind. */
  private static final class Kite {
    static final int MOST_STATES = 288;
    static final int BANDS = 5;
    static final int MOST_ACROSS = 6;
    static final int MOVES = 5;
    static final int DRUMS = 3;
    static final int LEFT = 1;
    static final int RIGHT = 2;
    static final int UP = 3;
    static final int DOWN = 4;
    static final int OUT = 1;
    static final int IN = 2;
    /** How many acts a slant has. */
    static final int ACTS = 15;
    static final int FALLEN = 1;
    static final int BROKEN = 2;

    // Where facts hold what told() tells by these numbers.
    private static final int ACROSS = 0;
    private static final int HIGH = 1;
    private static final int ROPE = 2;
    private static final int UNIT = 3;
    private static final int WEIGHT = 4;
    private static final int MARK = 5;
    private static final int LOSS = 6;
    private static final int REEL = 7;
    private static final int CROSS = 8;
    private static final int TIRE = 9;
    private static final int SLANTS = 10;
    private static final int LIFT = 20;
    private static final int WINDOW = 30;
    private static final int FACTS = 36;

    private static final int NAME_LIFT = 10;
    private static final int NAMES = 12;
    private static final String ALL_NAMES =
        "across high rope unit weight mark loss reel cross tire lift window";
    private static final int[] LEAST = {2, 2, 2, 5, 0, 1, 0, 0, 100, 0};
    private static final int[] MOST = {6, 6, 8, 50, 9999, 99999, 9999, 400, 400, 99999};
    private static final int[] UNTOLD = {5, 4, 6, 20, 100, 20000, 0, 100, 150, 1000};

    private final int[] facts = new int[FACTS];
    /** What a text tells, till it is known to have no fault. */
    private final int[] draft = new int[FACTS];
    int states;
    final int[] columns = new int[MOST_STATES];
    final int[] rows = new int[MOST_STATES];
    final int[] ropes = new int[MOST_STATES];
    final int[] heights = new int[MOST_STATES];
    final int[] bands = new int[MOST_STATES];

    Kite() {
      startDraft();
      useDraft();
    }

    /** How many clauses the text has; NONE with a fault. */
    int takeText(Tape text) {
      startDraft();
      text.startText();
      int namesTold = 0;
      for (int clauses = 0; clauses <= NAMES; clauses++) {
        text.advance();
        if (text.isAtEnd()) {
          useDraft();
          return clauses;
        }
        int name = text.wordAmong(ALL_NAMES);
        if (name < 0) {
          text.fails(Tape.FAULT_SYNTAX);
          return NONE;
        }
        if ((namesTold >> name & 1) != 0) {
          text.fails(Tape.FAULT_TWICE);
          return NONE;
        }
        namesTold |= 1 << name;
        if (!takeClause(text, name)) {
          return NONE;
        }
      }
      return NONE;
    }

    private boolean takeClause(Tape text, int name) {
      if (name == NAME_LIFT) {
        return takeList(text, LIFT, 3, 99);
      }
      if (name > NAME_LIFT) {
        return takeList(text, WINDOW, MOST_ACROSS, 100);
      }
      text.advance();
      if (!text.isNumberWithin(LEAST[name], MOST[name])) {
        return false;
      }
      draft[name] = text.number;
      text.advance();
      return text.isSemicolon() || text.fails(Tape.FAULT_SYNTAX);
    }

    private boolean takeList(Tape text, int place, int room, int most) {
      for (int count = 0; count <= room; count++) {
        text.advance();
        if (count > 0 && text.isSemicolon()) {
          return true;
        }
        if (!text.isNumberWithin(0, most)) {
          return false;
        }
        if (count == room) {
          return text.fails(Tape.FAULT_ROOM);
        }
        // the last one told stands for all behind it
        Arrays.fill(draft, place + count, place + room, text.number);
        if (place == LIFT) {
          draft[SLANTS] = count + 1;
        }
      }
      return false;
    }

    private void startDraft() {
      System.arraycopy(UNTOLD, 0, draft, 0, UNTOLD.length);
      draft[SLANTS] = 2;
      draft[LIFT] = 10;
      draft[LIFT + 1] = 2;
      Arrays.fill(draft, WINDOW, FACTS, 100);
    }

    private void useDraft() {
      System.arraycopy(draft, 0, facts, 0, FACTS);
      int high = Math.max(facts[HIGH], 1);
      states = 0;
      for (int rope = 0; rope < facts[ROPE]; rope++) {
        for (int row = 0; row < facts[HIGH]; row++) {
          for (int column = 0; column < facts[ACROSS] && states < MOST_STATES; column++) {
            columns[states] = column;
            rows[states] = row;
            ropes[states] = rope;
            heights[states] = facts[UNIT] * (rope + 1) * (row + 1) / high;
            bands[states] = Math.min(heights[states] / 40, BANDS - 1);
            states++;
          }
        }
      }
    }

    int fact(int what) {
      boolean isLift = what >= LIFT && what - LIFT < facts[SLANTS];
      boolean isWindow = what >= WINDOW && what - WINDOW < facts[ACROSS];
      return isWithin(what, ACROSS, SLANTS) || isLift || isWindow ? facts[what] : NONE;
    }

    int slants() {
      return facts[SLANTS];
    }

    int across() {
      return facts[ACROSS];
    }

    boolean hasState(int s) {
      return s >= 0 && s < states;
    }

    boolean hasAct(int act) {
      return act >= 0 && act < actCount();
    }

    int actCount() {
      return ACTS * facts[SLANTS];
    }

    static int moveOf(int act) {
      return act % ACTS / DRUMS;
    }

    static int drumOf(int act) {
      return act % DRUMS;
    }

    static boolean isSideways(int move) {
      return move == LEFT || move == RIGHT;
    }

    boolean canMove(int s, int move) {
      switch (move) {
        case LEFT:
          return columns[s] > 0;
        case RIGHT:
          return columns[s] < facts[ACROSS] - 1;
        case UP:
          return rows[s] < facts[HIGH] - 1;
        case DOWN:
          return rows[s] > 0;
        default:
          return true;
      }
    }

    boolean canReel(int s, int drum) {
      if (drum == OUT) {
        return ropes[s] < facts[ROPE] - 1;
      }
      return drum != IN || ropes[s] > 0;
    }

    /** By how much a state's number changes with a move. */
    int moveStep(int move) {
      switch (move) {
        case LEFT:
          return -1;
        case RIGHT:
          return 1;
        case UP:
          return facts[ACROSS];
        case DOWN:
          return -facts[ACROSS];
        default:
          return 0;
      }
    }

    /** By how much a state's number changes with the drum. */
    int drumStep(int drum) {
      int layer = facts[ACROSS] * facts[HIGH];
      if (drum == OUT) {
        return layer;
      }
      return drum == IN ? -layer : 0;
    }

    /** The state to which an act leads, or NONE. */
    int goal(int s, int act) {
      int move = moveOf(act);
      int drum = drumOf(act);
      boolean can = canMove(s, move) && canReel(s, drum);
      return can ? s + moveStep(move) + drumStep(drum) : NONE;
    }

    /** The act, with stay or hold for what would leave the states. */
    int withinStates(int s, int act) {
      int move = moveOf(act);
      int drum = drumOf(act);
      int kept = canMove(s, move) ? act : act - DRUMS * move;
      return canReel(s, drum) ? kept : kept - drum;
    }

    int pullOf(int s, int act, int w) {
      return pullAt(act / ACTS, columns[s], isSideways(moveOf(act)), w);
    }

    int pullAt(int slant, int column, boolean sideways, int w) {
      int pull = facts[LIFT + slant] * w * w * facts[WINDOW + column] / 100;
      return sideways ? pull * facts[CROSS] / 100 : pull;
    }

    int workOf(int drum, int pull) {
      if (drum == OUT) {
        return pull - facts[LOSS];
      }
      return drum == IN ? -(pull * facts[REEL] / 100) - facts[LOSS] : 0;
    }

    /** 0, FALLEN or BROKEN; a pull that is both is FALLEN. */
    int fateOf(int pull) {
      if (pull < facts[WEIGHT]) {
        return FALLEN;
      }
      return pull > facts[MARK] ? BROKEN : 0;
    }

    boolean bears(int pullByLow, int pullByHigh) {
      return pullByLow >= facts[WEIGHT] && pullByHigh <= facts[MARK];
    }

    int tiringOf(int pull) {
      return Math.max(pull - facts[TIRE], 0) / 100;
    }
  }

  /** The winds as they were told, and what acts do in them. */
  private static final class Air {
    static final int HOURS = 24;
    static final int MOST_WIND = 60;
    static final int MOST_STEP = 999;
    static final int MOST_TOLD = 200;
    private static final int USUAL_WIND = 10;

    private final Kite kite;
    int count;
    int latestStep;
    private final int[] steps = new int[MOST_TOLD];
    private final int[] places = new int[MOST_TOLD];
    private final int[] toldLows = new int[MOST_TOLD];
    private final int[] toldHighs = new int[MOST_TOLD];
    /** The winds of all that is told, by place. */
    private final int[] lows = new int[HOURS * Kite.BANDS];
    private final int[] highs = new int[HOURS * Kite.BANDS];

    Air(Kite kite) {
      this.kite = kite;
      Arrays.fill(lows, USUAL_WIND);
      Arrays.fill(highs, USUAL_WIND);
    }

    /** The hour of a tick, of so many each hour; hours go round. */
    static int hourOf(int start, int tick, int each) {
      return (start + tick / Math.max(each, 1)) % HOURS;
    }

    private static int placeOf(int hour, int band) {
      return hour * Kite.BANDS + band;
    }

    void take(int step, int hour, int band, int low, int high) {
      int place = placeOf(hour, band);
      lows[place] = low;
      highs[place] = high;
      steps[count] = step;
      places[count] = place;
      toldLows[count] = low;
      toldHighs[count] = high;
      latestStep = step;
      count++;
    }

    /** 100 times low, and high, as known at a step. */
    int knownAt(int hour, int band, int step) {
      int place = placeOf(hour, band);
      for (int i = count - 1; i >= 0; i--) {
        if (places[i] == place && steps[i] <= step) {
          return 100 * toldLows[i] + toldHighs[i];
        }
      }
      return 100 * USUAL_WIND + USUAL_WIND;
    }

    int lowAt(int hour, int band) {
      return lows[placeOf(hour, band)];
    }

    int highAt(int hour, int band) {
      return highs[placeOf(hour, band)];
    }

    int windIn(int s, int hour, boolean byHigh) {
      int band = kite.bands[s];
      return byHigh ? highAt(hour, band) : lowAt(hour, band);
    }

    boolean isAlike(int hour, int other) {
      for (int band = 0; band < Kite.BANDS; band++) {
        int place = placeOf(hour, band);
        int place2 = placeOf(other, band);
        if (lows[place] != lows[place2] || highs[place] != highs[place2]) {
          return false;
        }
      }
      return true;
    }

    int pullBy(int s, int act, int hour, boolean byHigh) {
      return kite.pullOf(s, act, windIn(s, hour, byHigh));
    }

    boolean isSafe(int s, int act, int hour) {
      return kite.goal(s, act) != NONE
          && kite.bears(pullBy(s, act, hour, false), pullBy(s, act, hour, true));
    }

    int sureWork(int s, int act, int hour) {
      int drum = Kite.drumOf(act);
      return kite.workOf(drum, pullBy(s, act, hour, drum == Kite.IN));
    }

    /** The pull by a share (tenths) of the low wind. */
    int sharedPull(int s, int act, int hour, int share) {
      return kite.pullOf(s, act, windIn(s, hour, false) * share / 10);
    }
  }

  /** Rules of flying. */
  private static final class Rules {
    private static final int MOST_LINES = 8;
    private static final int MOST_CONDS = 3;
    /** A line: how many conds, three numbers for each of them, and the act. */
    private static final int COND = 3;
    private static final int ACT = 1 + MOST_CONDS * COND;
    private static final int LINE = ACT + 1;
    private static final int ABOVE = 0;
    private static final int BELOW = 1;

    private final Kite kite;
    int lines;
    private final int[] told = new int[MOST_LINES * LINE];
    /** What a text tells, till it is known to have no fault. */
    private final int[] draft = new int[MOST_LINES * LINE];

    Rules(Kite kite) {
      this.kite = kite;
    }

    void forget() {
      lines = 0;
    }

    /** How many lines the text has; NONE with a fault. */
    int takeText(Tape text) {
      text.startText();
      for (int line = 0; line <= MOST_LINES; line++) {
        text.advance();
        if (text.isAtEnd()) {
          System.arraycopy(draft, 0, told, 0, told.length);
          lines = line;
          return line;
        }
        if (!takeLine(text, line)) {
          return NONE;
        }
      }
      return NONE;
    }

    private boolean takeLine(Tape text, int line) {
      if (text.wordAmong("when") < 0) {
        return text.fails(Tape.FAULT_SYNTAX);
      }
      if (line >= MOST_LINES) {
        return text.fails(Tape.FAULT_ROOM);
      }
      return takeConds(text, line * LINE) && takeAct(text, line * LINE);
    }

    private boolean takeConds(Tape text, int place) {
      for (int conds = 0; conds < MOST_CONDS; conds++) {
        if (!takeCond(text, place + 1 + conds * COND)) {
          return false;
        }
        draft[place] = conds + 1;
        text.advance();
        int word = text.wordAmong("and do");
        if (word < 0) {
          return text.fails(Tape.FAULT_SYNTAX);
        }
        if (word == 1) {
          return true;
        }
      }
      return text.fails(Tape.FAULT_ROOM);
    }

    private boolean takeCond(Tape text, int place) {
      text.advance();
      draft[place] = text.wordAmong("pull height rope column row");
      if (draft[place] < 0) {
        return text.fails(Tape.FAULT_SYNTAX);
      }
      text.advance();
      draft[place + 1] = text.wordAmong("above below is");
      if (draft[place + 1] < 0) {
        return text.fails(Tape.FAULT_SYNTAX);
      }
      text.advance();
      boolean isNumber = text.isNumberWithin(0, 99999);
      draft[place + 2] = text.number;
      return isNumber;
    }

    private boolean takeAct(Tape text, int place) {
      text.advance();
      if (!text.isNumberWithin(0, kite.slants() - 1)) {
        return false;
      }
      int slant = text.number;
      text.advance();
      int move = text.wordAmong("stay left right up down");
      if (move < 0) {
        return text.fails(Tape.FAULT_SYNTAX);
      }
      text.advance();
      int drum = text.wordAmong("hold out in");
      if (drum < 0) {
        return text.fails(Tape.FAULT_SYNTAX);
      }
      draft[place + ACT] = Kite.ACTS * slant + Kite.DRUMS * move + drum;
      text.advance();
      return text.isSemicolon() || text.fails(Tape.FAULT_SYNTAX);
    }

    /** The act of the first line that holds in a state by a wind. */
    int actFor(int s, int w) {
      for (int line = 0; line < lines; line++) {
        if (holds(line * LINE, s, w)) {
          return told[line * LINE + ACT];
        }
      }
      return 0;
    }

    private boolean holds(int place, int s, int w) {
      for (int cond = 0; cond < told[place]; cond++) {
        int at = place + 1 + cond * COND;
        int value = valueOf(told[at], s, w);
        int bound = told[at + 2];
        boolean holds = told[at + 1] == ABOVE ? value > bound
            : told[at + 1] == BELOW ? value < bound : value == bound;
        if (!holds) {
          return false;
        }
      }
      return true;
    }

    private int valueOf(int what, int s, int w) {
      switch (what) {
        case 0:
          return kite.pullOf(s, 0, w);
        case 1:
          return kite.heights[s];
        case 2:
          return kite.ropes[s];
        case 3:
          return kite.columns[s];
        default:
          return kite.rows[s];
      }
    }
  }

  /** A row of acts and the states ahead of them; length 0: there is none. */
  private static final class Row {
    static final int MOST_TOLD = 100;
    private static final int FIRST_BYTE = 48;

    final int[] acts;
    final int[] states;
    int length;
    int worth;
    int safeActs;
    int end;
    int won;
    int spent;
    int greatest;
    boolean isLoop;

    Row(int room) {
      int size = Math.max(room, 1);
      acts = new int[size];
      states = new int[size];
    }

    /** The acts, the states and the worth of another row. */
    void copyFrom(Row other) {
      length = Math.min(other.length, acts.length);
      System.arraycopy(other.acts, 0, acts, 0, length);
      System.arraycopy(other.states, 0, states, 0, length);
      worth = other.worth;
    }

    /** Whether the tape is a row; if it isn't, this one stays. */
    boolean takeActs(Tape tape, Kite kite) {
      if (tape.length < 1 || tape.length > acts.length) {
        return false;
      }
      for (int i = 0; i < tape.length; i++) {
        if (!kite.hasAct(tape.byteAt(i) - FIRST_BYTE)) {
          return false;
        }
      }
      length = tape.length;
      for (int i = 0; i < length; i++) {
        acts[i] = tape.byteAt(i) - FIRST_BYTE;
      }
      return true;
    }

    /** Goes through the acts as far as they are safe. */
    void walk(Air air, Kite kite, int s, int hour) {
      safeActs = 0;
      end = s;
      won = 0;
      spent = 0;
      greatest = 0;
      while (safeActs < length && air.isSafe(end, acts[safeActs], hour)) {
        int act = acts[safeActs];
        int work = air.sureWork(end, act, hour);
        won += Kite.drumOf(act) == Kite.OUT ? work : 0;
        spent -= Kite.drumOf(act) == Kite.IN ? work : 0;
        greatest = Math.max(greatest, air.pullBy(end, act, hour, true));
        states[safeActs] = end;
        end = kite.goal(end, act);
        safeActs++;
      }
      worth = won - spent;
      isLoop = safeActs == length && end == s;
    }

    /** What one loop tires the rope by. */
    int tiring(Air air, Kite kite, int hour) {
      int sum = 0;
      for (int i = 0; i < length; i++) {
        sum += kite.tiringOf(air.pullBy(states[i], acts[i], hour, true));
      }
      return sum;
    }
  }

  /** Finds the best loop of an hour: see find(). */
  private static final class LoopFinder {
    private static final int MOST_PATHS = Kite.MOST_STATES * Kite.ACTS;
    private static final int OPTIONS = Kite.BANDS * Kite.MOST_ACROSS * 2 * Kite.DRUMS;
    /** Less than any act gives. */
    private static final int FAR_BELOW = -1000000;
    /** Far above how often levels are raised. */
    private static final int MANY = 1000000;

    private final Kite kite;
    private final Air air;
    /** Of each band, column, sideways or not, and drum: the slant that gives most (NONE), and what. */
    private final int[] slants = new int[OPTIONS];
    private final int[] gains = new int[OPTIONS];
    /** The paths from state s are those from firsts[s] on, up to firsts[s + 1]. */
    private final int[] firsts = new int[Kite.MOST_STATES + 1];
    private final int[] tails = new int[MOST_PATHS];
    private final int[] heads = new int[MOST_PATHS];
    private final int[] works = new int[MOST_PATHS];
    private final int[] acts = new int[MOST_PATHS];
    private final long[] levels = new long[Kite.MOST_STATES];
    private final int[] raisedBy = new int[Kite.MOST_STATES];
    /** The states raised since their paths were followed: no other can raise more. */
    private final boolean[] isFresh = new boolean[Kite.MOST_STATES];
    private final int[] marks = new int[Kite.MOST_STATES];
    private final int[] layers = new int[Kite.MOST_STATES];
    private final int[] queue = new int[Kite.MOST_STATES];
    private int queued;
    private long meanSum;
    private long meanLength;

    LoopFinder(Kite kite, Air air) {
      this.kite = kite;
      this.air = air;
    }

    /**
     * Puts the best loop of an hour into a row (length 0: there is none). With the greatest mean
     * taken from each path, no loop gives more than 0, so that states have levels that no path
     * raises; the loops with the greatest mean are those along paths that just reach the level
     * of their head.
     */
    void find(int hour, Row loop) {
      loop.length = 0;
      weighOptions(hour);
      drawPaths();
      meanSum = FAR_BELOW;
      meanLength = 1;
      boolean isBetter = true;
      for (int i = 0; i < MANY && isBetter; i++) {
        isBetter = takeBetterMean();
      }
      keepTightPaths();
      Arrays.fill(layers, NONE);
      queued = 0;
      int start = NONE;
      int shortest = kite.states + 1;
      for (int s = 0; s < kite.states && shortest > 1; s++) {
        int length = shortestFrom(s, shortest);
        if (length != NONE) {
          shortest = length;
          start = s;
        }
      }
      if (start != NONE) {
        shortestFrom(start, shortest + 1);
        markWaysBack(start, shortest);
        writeLoop(start, shortest, loop);
      }
    }

    private static int optionOf(int band, int column, boolean sideways) {
      return ((band * Kite.MOST_ACROSS + column) * 2 + (sideways ? 1 : 0)) * Kite.DRUMS;
    }

    private void weighOptions(int hour) {
      Arrays.fill(slants, NONE);
      for (int band = 0; band < Kite.BANDS; band++) {
        int low = air.lowAt(hour, band);
        int high = air.highAt(hour, band);
        for (int column = 0; column < kite.across(); column++) {
          weighOption(optionOf(band, column, false), column, false, low, high);
          weighOption(optionOf(band, column, true), column, true, low, high);
        }
      }
    }

    private void weighOption(int option, int column, boolean sideways, int low, int high) {
      for (int slant = 0; slant < kite.slants(); slant++) {
        int pullByLow = kite.pullAt(slant, column, sideways, low);
        int pullByHigh = kite.pullAt(slant, column, sideways, high);
        if (kite.bears(pullByLow, pullByHigh)) {
          for (int drum = 0; drum < Kite.DRUMS; drum++) {
            int gain = kite.workOf(drum, drum == Kite.IN ? pullByHigh : pullByLow);
            if (slants[option + drum] == NONE || gain > gains[option + drum]) {
              slants[option + drum] = slant;
              gains[option + drum] = gain;
            }
          }
        }
      }
    }

    /** One path for each move and drum: a lesser slant there is in no best loop. */
    private void drawPaths() {
      int count = 0;
      for (int s = 0; s < kite.states; s++) {
        firsts[s] = count;
        int band = kite.bands[s];
        for (int move = 0; move < Kite.MOVES; move++) {
          if (kite.canMove(s, move)) {
            int option = optionOf(band, kite.columns[s], Kite.isSideways(move));
            count = drawMove(s, move, option, count);
          }
        }
      }
      firsts[kite.states] = count;
    }

    private int drawMove(int s, int move, int option, int count) {
      int next = count;
      for (int drum = 0; drum < Kite.DRUMS && next < MOST_PATHS; drum++) {
        int slant = slants[option + drum];
        if (slant != NONE && kite.canReel(s, drum)) {
          tails[next] = s;
          heads[next] = s + kite.moveStep(move) + kite.drumStep(drum);
          works[next] = gains[option + drum];
          acts[next] = Kite.ACTS * slant + Kite.DRUMS * move + drum;
          next++;
        }
      }
      return next;
    }

    /** Raises levels till a loop shows that gives more than the mean, which it becomes, or none can. */
    private boolean takeBetterMean() {
      for (int s = 0; s < kite.states; s++) {
        levels[s] = 0;
        raisedBy[s] = NONE;
        isFresh[s] = true;
      }
      for (int i = 0; i < MANY && raiseLevels(); i++) {
        if (takeBestRing()) {
          return true;
        }
      }
      return false;
    }

    private boolean raiseLevels() {
      boolean raised = false;
      for (int s = 0; s < kite.states; s++) {
        if (isFresh[s]) {
          isFresh[s] = false;
          raised = raiseFrom(s) || raised;
        }
      }
      return raised;
    }

    private boolean raiseFrom(int s) {
      boolean raised = false;
      long level = levels[s] - meanSum;
      for (int path = firsts[s]; path < firsts[s + 1]; path++) {
        long reached = level + works[path] * meanLength;
        int head = heads[path];
        if (reached > levels[head]) {
          levels[head] = reached;
          raisedBy[head] = path;
          isFresh[head] = true;
          raised = true;
        }
      }
      return raised;
    }

    /** Where states raised one another in a ring, that is a loop above the mean. */
    private boolean takeBestRing() {
      Arrays.fill(marks, NONE);
      boolean found = false;
      for (int s = 0; s < kite.states; s++) {
        int at = s;
        for (int i = 0; i < kite.states && marks[at] == NONE && raisedBy[at] != NONE; i++) {
          marks[at] = s;
          at = tails[raisedBy[at]];
        }
        if (marks[at] == s) {
          found = takeRing(at) || found;
        }
      }
      return found;
    }

    private boolean takeRing(int start) {
      long sum = 0;
      int length = 0;
      int at = start;
      do {
        sum += works[raisedBy[at]];
        length++;
        at = tails[raisedBy[at]];
      } while (at != start && length < kite.states);
      if (sum * meanLength <= meanSum * length) {
        return false;
      }
      meanSum = sum;
      meanLength = length;
      return true;
    }

    private void keepTightPaths() {
      int count = 0;
      for (int s = 0; s < kite.states; s++) {
        int path = firsts[s];
        firsts[s] = count;
        for (; path < firsts[s + 1]; path++) {
          long reached = levels[s] - meanSum + works[path] * meanLength;
          if (reached == levels[heads[path]]) {
            heads[count] = heads[path];
            works[count] = works[path];
            acts[count] = acts[path];
            count++;
          }
        }
      }
      firsts[kite.states] = count;
    }

    /**
     * The length of the shortest loop from a state, if it is below a limit, or NONE; the layers are
     * how far the states are from it. Loops through lesser states were found from those.
     */
    private int shortestFrom(int start, int limit) {
      for (int i = 0; i < queued; i++) {
        layers[queue[i]] = NONE;
      }
      layers[start] = 0;
      queue[0] = start;
      queued = 1;
      for (int i = 0; i < queued && i < queue.length; i++) {
        int s = queue[i];
        if (layers[s] + 1 >= limit) {
          return NONE;
        }
        for (int path = firsts[s]; path < firsts[s + 1]; path++) {
          int head = heads[path];
          if (head == start) {
            return layers[s] + 1;
          }
          if (head > start && layers[head] == NONE && queued < queue.length) {
            layers[head] = layers[s] + 1;
            queue[queued] = head;
            queued++;
          }
        }
      }
      return NONE;
    }

    /** Marks the states from which the start is reached in just what the length leaves. */
    private void markWaysBack(int start, int length) {
      Arrays.fill(marks, 0);
      for (int i = queued - 1; i >= 0; i--) {
        int s = queue[i];
        for (int path = firsts[s]; path < firsts[s + 1]; path++) {
          if (goesOn(heads[path], layers[s] + 1, start, length)) {
            marks[s] = 1;
          }
        }
      }
    }

    private boolean goesOn(int head, int layer, int start, int length) {
      return layer == length ? head == start : layers[head] == layer && marks[head] == 1;
    }

    /** Always the least act with which the loop goes on. */
    private void writeLoop(int start, int length, Row loop) {
      int at = start;
      loop.worth = 0;
      loop.length = length;
      for (int i = 0; i < length; i++) {
        int chosen = NONE;
        for (int path = firsts[at]; path < firsts[at + 1]; path++) {
          boolean isLess = chosen == NONE || acts[path] < acts[chosen];
          if (isLess && goesOn(heads[path], i + 1, start, length)) {
            chosen = path;
          }
        }
        if (chosen != NONE) {
          loop.states[i] = at;
          loop.acts[i] = acts[chosen];
          loop.worth += works[chosen];
          at = heads[chosen];
        }
      }
    }
  }

  /** The best loops by hours, and the hours to land and to fly. */
  private static final class Hours {
    private final Air air;
    private final LoopFinder finder;
    private final Row[] loops = new Row[Air.HOURS];
    private final boolean[] isFound = new boolean[Air.HOURS];
    private final int[] gains = new int[Air.HOURS];
    /** What the hours from one on give at most, if it is landed or flown ahead of it. */
    private final int[] fromLanded = new int[Air.HOURS + 1];
    private final int[] fromFlown = new int[Air.HOURS + 1];
    final int[] flown = new int[Air.HOURS];
    private int first = 0;
    private int last = NONE;

    Hours(Kite kite, Air air) {
      this.air = air;
      finder = new LoopFinder(kite, air);
      for (int i = 0; i < loops.length; i++) {
        loops[i] = new Row(Kite.MOST_STATES);
      }
    }

    void forgetHour(int hour) {
      isFound[hour] = false;
    }

    void forgetAll() {
      for (int i = 0; i < isFound.length; i++) {
        isFound[i] = false;
      }
    }

    Row loopAt(int hour) {
      if (!isFound[hour]) {
        int alike = foundAlike(hour);
        if (alike != NONE) {
          loops[hour].copyFrom(loops[alike]);
        } else {
          finder.find(hour, loops[hour]);
        }
        isFound[hour] = true;
      }
      return loops[hour];
    }

    /** To find a loop is dear, and many hours have the same winds. */
    private int foundAlike(int hour) {
      for (int other = 0; other < isFound.length; other++) {
        if (isFound[other] && air.isAlike(hour, other)) {
          return other;
        }
      }
      return NONE;
    }

    void weigh(int from, int to, int each, int fall) {
      first = from;
      last = to;
      for (int hour = from; hour <= to; hour++) {
        Row loop = loopAt(hour);
        gains[hour] = loop.length > 0 ? (int) ((long) each * loop.worth / loop.length) : -fall;
      }
    }

    /** The greatest sum; among equal ones an hour is landed rather than flown, the first hour first. */
    int choose(int launch, int land) {
      fromLanded[last + 1] = 0;
      fromFlown[last + 1] = -land;
      for (int hour = last; hour >= first; hour--) {
        int ifLanded = fromLanded[hour + 1];
        int ifFlown = gains[hour] + fromFlown[hour + 1];
        fromLanded[hour] = Math.max(ifLanded, ifFlown - launch);
        fromFlown[hour] = Math.max(ifLanded - land, ifFlown);
      }
      boolean isUp = false;
      for (int hour = first; hour <= last; hour++) {
        int ifLanded = fromLanded[hour + 1] - (isUp ? land : 0);
        isUp = ifLanded < (isUp ? fromFlown[hour] : fromLanded[hour]);
        flown[hour] = isUp ? 1 : 0;
      }
      return fromLanded[first];
    }

    boolean isPlanned(int hour) {
      return hour >= first && hour <= last;
    }
  }

  /** The latest flight by rules, and from how many states rules hold. */
  private static final class Flight {
    static final int MOST_TICKS = 500;
    private static final int HELD_TICKS = 200;

    private final Kite kite;
    private final Air air;
    private final Rules rules;
    boolean wasRun;
    int done;
    int fate;
    int work;
    int end;
    final int[] acts = new int[MOST_TICKS];
    private final int[] goals = new int[Kite.MOST_STATES];
    private final int[] ticksLeft = new int[Kite.MOST_STATES];
    private final boolean[] isLost = new boolean[Kite.MOST_STATES];

    Flight(Kite kite, Air air, Rules rules) {
      this.kite = kite;
      this.air = air;
      this.rules = rules;
    }

    int run(int s, int hour, int ticks, int each, boolean byHigh) {
      wasRun = true;
      done = 0;
      fate = 0;
      work = 0;
      end = s;
      for (int tick = 0; tick < ticks && fate == 0; tick++) {
        flyTick(air.windIn(end, Air.hourOf(hour, tick, each), byHigh));
      }
      return done;
    }

    private void flyTick(int w) {
      int act = kite.withinStates(end, rules.actFor(end, w));
      int pull = kite.pullOf(end, act, w);
      fate = kite.fateOf(pull);
      if (fate == 0) {
        work += kite.workOf(Kite.drumOf(act), pull);
        acts[done] = act;
        end = kite.goal(end, act);
        done++;
      }
    }

    int countHeld(int hour) {
      for (int s = 0; s < isLost.length; s++) {
        isLost[s] = false;
      }
      markLost(hour, false);
      markLost(hour, true);
      int held = 0;
      for (int s = 0; s < kite.states; s++) {
        held += isLost[s] ? 0 : 1;
      }
      return held;
    }

    /** At one hour each state has but one next: so the end is followed back, a tick at a time. */
    private void markLost(int hour, boolean byHigh) {
      for (int s = 0; s < kite.states; s++) {
        int w = air.windIn(s, hour, byHigh);
        int act = kite.withinStates(s, rules.actFor(s, w));
        boolean ends = kite.fateOf(kite.pullOf(s, act, w)) != 0;
        goals[s] = ends ? NONE : kite.goal(s, act);
        ticksLeft[s] = ends ? 0 : NONE;
        isLost[s] = isLost[s] || ends;
      }
      boolean found = true;
      for (int ticks = 1; ticks < HELD_TICKS && found; ticks++) {
        found = false;
        for (int s = 0; s < kite.states; s++) {
          if (goals[s] != NONE && ticksLeft[s] == NONE && ticksLeft[goals[s]] == ticks - 1) {
            ticksLeft[s] = ticks;
            isLost[s] = true;
            found = true;
          }
        }
      }
    }
  }

  /** Loops side by side: how near they come, and which stands are the best field. */
  private static final class Field {
    static final int MOST_STANDS = 8;
    static final int MOST_SITE = 40;
    private static final int LEAST_APART = 2;
    /** Farther than any two kites can be. */
    private static final int FAR_APART = 1000;

    private final Kite kite;
    int count;
    /** The set of the latest choice, if nothing came since. */
    int chosen;
    private final Row[] loops = new Row[MOST_STANDS];
    private final int[] sites = new int[MOST_STANDS];
    /** Which stands each one meets, as bits. */
    private final int[] meets = new int[MOST_STANDS];

    Field(Kite kite) {
      this.kite = kite;
      for (int i = 0; i < MOST_STANDS; i++) {
        loops[i] = new Row(Row.MOST_TOLD);
      }
    }

    void forget() {
      count = 0;
      chosen = 0;
    }

    int add(int site, Row loop) {
      int number = count;
      loops[number].copyFrom(loop);
      sites[number] = site;
      meets[number] = 0;
      for (int i = 0; i < number; i++) {
        if (nearest(loops[i], loop, site - sites[i], 0) < LEAST_APART) {
          meets[i] |= 1 << number;
          meets[number] |= 1 << i;
        }
      }
      count++;
      chosen = 0;
      return number;
    }

    int chooseBest() {
      int best = 0;
      chosen = 0;
      for (int set = 1; set < 1 << count; set++) {
        int sum = worthOf(set);
        if (sum > best) {
          best = sum;
          chosen = set;
        }
      }
      return best;
    }

    /** The sum of worths; -1, which is never best, if two of the set meet. */
    private int worthOf(int set) {
      int sum = 0;
      for (int i = 0; i < count; i++) {
        if ((set >> i & 1) != 0) {
          if ((meets[i] & set) != 0) {
            return -1;
          }
          sum += loops[i].worth;
        }
      }
      return sum;
    }

    /** The least apart of two loops, the second one's site being so much to the right. */
    int nearest(Row one, Row two, int between, int k) {
      int least = FAR_APART;
      int i = 0;
      int j = k % Math.max(two.length, 1);
      int ticks = one.length * two.length / sharedStep(one.length, two.length);
      for (int tick = 0; tick < ticks; tick++) {
        int s = one.states[i];
        int s2 = two.states[j];
        int across = Math.abs(between + kite.columns[s2] - kite.columns[s]);
        least = Math.min(least, across + Math.abs(kite.rows[s2] - kite.rows[s]));
        i = i + 1 < one.length ? i + 1 : 0;
        j = j + 1 < two.length ? j + 1 : 0;
      }
      return least;
    }

    /** Shifts that differ by the shared step bring the same pairs of states together. */
    int bestShift(Row one, Row two, int between) {
      int best = NONE;
      int farthest = NONE;
      int shifts = sharedStep(one.length, two.length);
      for (int k = 0; k < shifts; k++) {
        int least = nearest(one, two, between, k);
        if (least > farthest) {
          farthest = least;
          best = k;
        }
      }
      return best;
    }

    /** The greatest common divisor; at least 1. */
    private static int sharedStep(int a, int b) {
      int greater = a;
      int lesser = b;
      for (int i = 0; i < Row.MOST_TOLD && lesser > 0; i++) {
        int rest = greater % lesser;
        greater = lesser;
        lesser = rest;
      }
      return Math.max(greater, 1);
    }
  }

  /** Laws of heights by hours. */
  private static final class Laws {
    static final int MOST_LAWS = 10;
    static final int MOST_HEIGHT = 9999;
    static final int MOST_TICKS = 5000;

    int count;
    /** The greatest height that all laws of an hour let. */
    private final int[] roofs = new int[Air.HOURS];

    Laws() {
      Arrays.fill(roofs, MOST_HEIGHT);
    }

    int add(int from, int to, int height) {
      for (int hour = from; hour <= to; hour++) {
        roofs[hour] = Math.min(roofs[hour], height);
      }
      count++;
      return count;
    }

    int firstBreach(Row loop, Kite kite, int hour, int each, int ticks) {
      int i = 0;
      for (int tick = 0; tick < ticks; tick++) {
        if (kite.heights[loop.states[i]] > roofs[Air.hourOf(hour, tick, each)]) {
          return tick;
        }
        i = i + 1 < loop.length ? i + 1 : 0;
      }
      return NONE;
    }
  }

  /** Pulls that were read, and the hidden shares of the wind that fit them. */
  private static final class Readings {
    static final int MOST_READ = 30;
    static final int MOST_RIGHTINGS = 20;
    static final int MOST_SHARE = 20;
    static final int MOST_PULL = 99999999;

    private final Kite kite;
    private final Air air;
    int count;
    int rightings;
    int latestStep;
    private final int[] steps = new int[MOST_READ];
    private final int[] states = new int[MOST_READ];
    private final int[] acts = new int[MOST_READ];
    private final int[] hours = new int[MOST_READ];
    /** Spans as they were read; behind them, those of the rightings. */
    private final int[] lows = new int[MOST_READ + MOST_RIGHTINGS];
    private final int[] highs = new int[MOST_READ + MOST_RIGHTINGS];
    private final int[] rightSteps = new int[MOST_RIGHTINGS];
    private final int[] rightReads = new int[MOST_RIGHTINGS];

    Readings(Kite kite, Air air) {
      this.kite = kite;
      this.air = air;
    }

    void forget() {
      count = 0;
      rightings = 0;
      latestStep = 0;
    }

    int add(int step, int s, int act, int hour, int low, int high) {
      steps[count] = step;
      states[count] = s;
      acts[count] = act;
      hours[count] = hour;
      lows[count] = low;
      highs[count] = high;
      latestStep = step;
      count++;
      return count - 1;
    }

    /** How often the reading was put right, this time too. */
    int putRight(int step, int k, int low, int high) {
      rightSteps[rightings] = step;
      rightReads[rightings] = k;
      lows[MOST_READ + rightings] = low;
      highs[MOST_READ + rightings] = high;
      latestStep = step;
      rightings++;
      int times = 0;
      for (int i = 0; i < rightings; i++) {
        times += rightReads[i] == k ? 1 : 0;
      }
      return times;
    }

    int fittingShares(int known) {
      int shares = (1 << MOST_SHARE + 1) - 1;
      for (int k = 0; k < count; k++) {
        if (steps[k] <= known) {
          shares &= sharesOf(k, spanOf(k, known));
        }
      }
      return shares;
    }

    /** Where the span of a reading stands, as known at a step. */
    private int spanOf(int k, int known) {
      for (int i = rightings - 1; i >= 0; i--) {
        if (rightReads[i] == k && rightSteps[i] <= known) {
          return MOST_READ + i;
        }
      }
      return k;
    }

    private int sharesOf(int k, int span) {
      int shares = 0;
      for (int share = 0; share <= MOST_SHARE; share++) {
        int pull = air.sharedPull(states[k], acts[k], hours[k], share);
        if (isWithin(pull, lows[span], highs[span])) {
          shares |= 1 << share;
        }
      }
      return shares;
    }

    int bestNext(int s, int hour) {
      int shares = fittingShares(Air.MOST_STEP);
      int least = Integer.bitCount(shares);
      int best = NONE;
      for (int act = 0; act < kite.actCount(); act++) {
        if (kite.goal(s, act) != NONE) {
          int heap = greatestHeap(shares, s, act, hour);
          if (heap < least) {
            least = heap;
            best = act;
          }
        }
      }
      return best;
    }

    /** More wind never pulls less, so that shares with one pull follow one another. */
    private int greatestHeap(int shares, int s, int act, int hour) {
      int greatest = 0;
      int heap = 0;
      int before = NONE;
      for (int share = 0; share <= MOST_SHARE; share++) {
        if ((shares >> share & 1) != 0) {
          int pull = air.sharedPull(s, act, hour, share);
          heap = pull == before ? heap + 1 : 1;
          before = pull;
          greatest = Math.max(greatest, heap);
        }
      }
      return greatest;
    }
  }
}
