import java.util.ArrayList;
import java.util.Arrays;
import java.util.HashMap;
import java.util.HashSet;
import java.util.List;
import java.util.Map;
import java.util.Set;
import java.util.regex.Matcher;
import java.util.regex.Pattern;

/**
 * The document once more, as plainly and slowly as its words allow, and with other ways than the
 * class has: tests hold the class against it.
 */
final class PlainHouse {
  static final int NOTHING = -100000000;
  static final String[] NAMES = {"across", "high", "rope", "unit", "weight", "mark", "loss", "reel",
      "cross", "tire", "lift", "window"};
  static final int[][] BOUNDS = {{2, 6, 5}, {2, 6, 4}, {2, 8, 6}, {5, 50, 20}, {0, 9999, 100},
      {1, 99999, 20000}, {0, 9999, 0}, {0, 400, 100}, {100, 400, 150}, {0, 99999, 1000}};

  record Told(int step, int hour, int band, int low, int high) {}

  record Law(int from, int to, int height) {}

  record Reading(int step, int s, int act, int hour, int low, int high) {}

  record Righting(int step, int k, int low, int high) {}

  record Cond(String what, String how, int bound) {}

  record Line(List<Cond> conds, int act) {}

  record Loop(int start, List<Integer> acts, long sum) {}

  record Kept(int start, List<Integer> acts, int worth) {}

  record Stand(int site, Kept loop) {}

  record Token(String text, int place) {}

  List<Integer> tape = new ArrayList<>();
  int faultKind = 0;
  int faultPlace = -1;
  Map<String, Integer> numbers = new HashMap<>();
  List<Integer> lift = List.of(10, 2);
  List<Integer> window = List.of(100);
  List<Line> rules = List.of();
  List<Told> winds = new ArrayList<>();
  Loop looped;
  int[] judged;
  Kept judgedLoop;
  Kept[] kept = new Kept[6];
  int[] flown;
  List<Integer> flownActs = List.of();
  int tired = 0;
  int[] planned;
  List<Stand> stands = new ArrayList<>();
  int fielded = 0;
  List<Law> laws = new ArrayList<>();
  int hidden = 10;
  List<Reading> readings = new ArrayList<>();
  List<Righting> rightings = new ArrayList<>();
  int readStep = 0;

  PlainHouse() {
    for (int i = 0; i < BOUNDS.length; i++) {
      numbers.put(NAMES[i], BOUNDS[i][2]);
    }
  }

  // ---- the tape and the texts

  int feed(int a, int b, int c, int d, int e) {
    if (tape.size() + 20 > 800) {
      return -3;
    }
    for (int n : new int[] {a, b, c, d, e}) {
      for (int i = 3; i >= 0; i--) {
        tape.add(n >>> 8 * i & 255);
      }
    }
    return tape.size();
  }

  int end(int n) {
    if (n < 0 || n > tape.size()) {
      return -1;
    }
    tape = new ArrayList<>(tape.subList(0, n));
    return n;
  }

  private static final class Fault extends Exception {
    private static final long serialVersionUID = 1;
    final int kind;
    final int place;

    Fault(int kind, int place) {
      this.kind = kind;
      this.place = place;
    }
  }

  private List<Token> tokens;
  private int at;

  private void readTape() {
    StringBuilder text = new StringBuilder();
    for (int b : tape) {
      text.append((char) b);
    }
    tape = new ArrayList<>();
    tokens = new ArrayList<>();
    Matcher m = Pattern.compile("[a-z]+|[0-9]+|[^ \n]", Pattern.DOTALL).matcher(text);
    while (m.find()) {
      tokens.add(new Token(m.group(), m.start()));
    }
    tokens.add(new Token("", text.length()));
    at = 0;
    faultKind = 0;
    faultPlace = -1;
  }

  private Token here() {
    return tokens.get(at);
  }

  private boolean isNumber() {
    return here().text().matches("[0-9]{1,5}");
  }

  private int number(int least, int most) throws Fault {
    if (!isNumber()) {
      throw new Fault(1, here().place());
    }
    int n = Integer.parseInt(here().text());
    if (n < least || n > most) {
      throw new Fault(2, here().place());
    }
    at++;
    return n;
  }

  private String word(String... words) throws Fault {
    for (String w : words) {
      if (here().text().equals(w)) {
        at++;
        return w;
      }
    }
    throw new Fault(1, here().place());
  }

  int kite() {
    readTape();
    Map<String, Integer> ns = new PlainHouse().numbers;
    List<Integer> newLift = List.of(10, 2);
    List<Integer> newWindow = List.of(100);
    Set<String> seen = new HashSet<>();
    try {
      while (!here().text().isEmpty()) {
        int place = here().place();
        String name = word(NAMES);
        if (!seen.add(name)) {
          throw new Fault(3, place);
        }
        if (name.equals("lift")) {
          newLift = list(3, 99);
        } else if (name.equals("window")) {
          newWindow = list(6, 100);
        } else {
          int[] b = BOUNDS[Arrays.asList(NAMES).indexOf(name)];
          ns.put(name, number(b[0], b[1]));
        }
        word(";");
      }
    } catch (Fault f) {
      faultKind = f.kind;
      faultPlace = f.place;
      return -1;
    }
    numbers = ns;
    lift = newLift;
    window = newWindow;
    rules = List.of();
    kept = new Kept[6];
    judgedLoop = null;
    stands.clear();
    fielded = 0;
    readings.clear();
    rightings.clear();
    readStep = 0;
    return seen.size();
  }

  private List<Integer> list(int room, int most) throws Fault {
    List<Integer> all = new ArrayList<>();
    all.add(number(0, most));
    while (isNumber()) {
      int place = here().place();
      int n = number(0, most);
      if (all.size() == room) {
        throw new Fault(4, place);
      }
      all.add(n);
    }
    return all;
  }

  int rules() {
    readTape();
    List<Line> lines = new ArrayList<>();
    try {
      while (!here().text().isEmpty()) {
        int place = here().place();
        word("when");
        if (lines.size() == 8) {
          throw new Fault(4, place);
        }
        List<Cond> conds = new ArrayList<>();
        String joint = "and";
        while (joint.equals("and")) {
          if (conds.size() == 3) {
            throw new Fault(4, tokens.get(at - 1).place());
          }
          conds.add(new Cond(word("pull", "height", "rope", "column", "row"),
              word("above", "below", "is"), number(0, 99999)));
          joint = word("and", "do");
        }
        int slant = number(0, lift.size() - 1);
        int move = List.of("stay", "left", "right", "up", "down")
            .indexOf(word("stay", "left", "right", "up", "down"));
        int drum = List.of("hold", "out", "in").indexOf(word("hold", "out", "in"));
        word(";");
        lines.add(new Line(conds, 15 * slant + 3 * move + drum));
      }
    } catch (Fault f) {
      faultKind = f.kind;
      faultPlace = f.place;
      return -1;
    }
    rules = lines;
    return lines.size();
  }

  int fault(int what) {
    return what == 0 ? faultKind : what == 1 ? faultPlace : -1;
  }

  int told(int what) {
    if (what >= 0 && what < 10) {
      return n(NAMES[what]);
    }
    if (what == 10) {
      return lift.size();
    }
    if (what == 11) {
      return rules.size();
    }
    if (what >= 20 && what < 20 + lift.size()) {
      return lift.get(what - 20);
    }
    return what >= 30 && what < 30 + n("across") ? windowOf(what - 30) : -1;
  }

  private int n(String name) {
    return numbers.get(name);
  }

  private int windowOf(int column) {
    return window.get(Math.min(column, window.size() - 1));
  }

  // ---- states and winds

  int states() {
    return n("across") * n("high") * n("rope");
  }

  int column(int s) {
    return s % n("across");
  }

  int row(int s) {
    return s / n("across") % n("high");
  }

  int rope(int s) {
    return s / n("across") / n("high");
  }

  int height(int s) {
    return n("unit") * (rope(s) + 1) * (row(s) + 1) / n("high");
  }

  int band(int s) {
    return Math.min(4, height(s) / 40);
  }

  private boolean isState(int s) {
    return s >= 0 && s < states();
  }

  private boolean isAct(int act) {
    return act >= 0 && act < 15 * lift.size();
  }

  private static boolean in(int n, int least, int most) {
    return least <= n && n <= most;
  }

  private static boolean isHour(int h) {
    return in(h, 0, 23);
  }

  int state(int s, int what) {
    if (!isState(s) || !in(what, 0, 4)) {
      return -1;
    }
    return new int[] {column(s), row(s), rope(s), height(s), band(s)}[what];
  }

  private int go(int s, int act) {
    int move = act / 3 % 5;
    int drum = act % 3;
    int c = column(s) + (move == 1 ? -1 : move == 2 ? 1 : 0);
    int r = row(s) + (move == 3 ? 1 : move == 4 ? -1 : 0);
    int p = rope(s) + (drum == 1 ? 1 : drum == 2 ? -1 : 0);
    boolean inside = in(c, 0, n("across") - 1) && in(r, 0, n("high") - 1) && in(p, 0, n("rope") - 1);
    return inside ? c + n("across") * (r + n("high") * p) : -1;
  }

  int leads(int s, int act) {
    return isState(s) && isAct(act) ? go(s, act) : -2;
  }

  int wind(int told, int hour, int band, int low, int high) {
    int latest = winds.isEmpty() ? 0 : winds.get(winds.size() - 1).step();
    boolean ok = in(told, 0, 999) && told >= latest && isHour(hour) && in(band, 0, 4)
        && in(low, 0, 60) && in(high, 0, 60) && low <= high;
    if (!ok) {
      return -2;
    }
    if (winds.size() == 200) {
      return -3;
    }
    winds.add(new Told(told, hour, band, low, high));
    return winds.size();
  }

  int winds(int hour, int band, int known) {
    if (!isHour(hour) || !in(band, 0, 4) || !in(known, 0, 999)) {
      return -2;
    }
    int answer = 1010;
    for (Told t : winds) {
      if (t.step() <= known && t.hour() == hour && t.band() == band) {
        answer = 100 * t.low() + t.high();
      }
    }
    return answer;
  }

  private int low(int s, int hour) {
    return winds(hour, band(s), 999) / 100;
  }

  private int high(int s, int hour) {
    return winds(hour, band(s), 999) % 100;
  }

  private int pullBy(int s, int act, int w) {
    long pull = (long) lift.get(act / 15) * w * w * windowOf(column(s)) / 100;
    int move = act / 3 % 5;
    return (int) (move == 1 || move == 2 ? pull * n("cross") / 100 : pull);
  }

  private int work(int act, int pull) {
    if (act % 3 == 1) {
      return pull - n("loss");
    }
    return act % 3 == 2 ? (int) (0 - (long) pull * n("reel") / 100 - n("loss")) : 0;
  }

  int pull(int s, int act, int w) {
    return isState(s) && isAct(act) && in(w, 0, 60) ? pullBy(s, act, w) : -2;
  }

  private boolean isSafe(int s, int act, int hour) {
    return go(s, act) >= 0 && pullBy(s, act, high(s, hour)) <= n("mark")
        && pullBy(s, act, low(s, hour)) >= n("weight");
  }

  private int surely(int s, int act, int hour) {
    return work(act, pullBy(s, act, act % 3 == 1 ? low(s, hour) : high(s, hour)));
  }

  int safe(int s, int act, int hour) {
    return !isState(s) || !isAct(act) || !isHour(hour) ? -2 : isSafe(s, act, hour) ? 1 : 0;
  }

  int gives(int s, int act, int hour) {
    return isState(s) && isAct(act) && isHour(hour) ? surely(s, act, hour) : NOTHING;
  }

  // ---- loops

  /** All rows of every length up to the number of states, summed from each state: no cleverness. */
  private Loop bestLoop(int hour) {
    int count = states();
    List<int[]> paths = new ArrayList<>();
    for (int s = 0; s < count; s++) {
      for (int act = 0; act < 15 * lift.size(); act++) {
        if (isSafe(s, act, hour)) {
          paths.add(new int[] {s, act, go(s, act), surely(s, act, hour)});
        }
      }
    }
    int[][] all = paths.toArray(new int[0][]);
    Loop best = null;
    for (int start = 0; start < count; start++) {
      // most[k][s]: the most that k acts from s give that end at the start
      long[][] most = new long[count + 1][count];
      Arrays.fill(most[0], Long.MIN_VALUE);
      most[0][start] = 0;
      for (int k = 1; k <= count; k++) {
        Arrays.fill(most[k], Long.MIN_VALUE);
        for (int[] p : all) {
          if (most[k - 1][p[2]] != Long.MIN_VALUE) {
            most[k][p[0]] = Math.max(most[k][p[0]], most[k - 1][p[2]] + p[3]);
          }
        }
        long sum = most[k][start];
        if (sum == Long.MIN_VALUE) {
          continue;
        }
        long more = best == null ? 1 : sum * best.acts().size() - best.sum() * k;
        if (more > 0 || more == 0 && k < best.acts().size()) {
          best = new Loop(start, leastRow(all, most, start, k), sum);
        }
      }
    }
    return best;
  }

  private List<Integer> leastRow(int[][] all, long[][] most, int start, int length) {
    List<Integer> acts = new ArrayList<>();
    int at = start;
    for (int k = length; k > 0; k--) {
      int[] chosen = null;
      for (int[] p : all) {
        boolean goesOn = p[0] == at && most[k - 1][p[2]] != Long.MIN_VALUE
            && most[k - 1][p[2]] + p[3] == most[k][at];
        if (goesOn && (chosen == null || p[1] < chosen[1])) {
          chosen = p;
        }
      }
      acts.add(chosen[1]);
      at = chosen[2];
    }
    return acts;
  }

  private final Map<String, Loop> found = new HashMap<>();

  private Loop loopOf(int hour) {
    StringBuilder key = new StringBuilder(numbers.toString() + lift + window);
    for (int band = 0; band < 5; band++) {
      key.append(' ').append(winds(hour, band, 999));
    }
    if (!found.containsKey(key.toString())) {
      found.put(key.toString(), bestLoop(hour));
    }
    return found.get(key.toString());
  }

  int best(int hour) {
    if (!isHour(hour)) {
      return -2;
    }
    Loop loop = loopOf(hour);
    if (loop == null) {
      return -1;
    }
    looped = loop;
    return loop.acts().size();
  }

  int looped(int what) {
    if (looped == null) {
      return NOTHING;
    }
    if (what == 0 || what == 1) {
      return what == 0 ? (int) looped.sum() : looped.start();
    }
    return what >= 10 && what < 10 + looped.acts().size() ? looped.acts().get(what - 10) : NOTHING;
  }

  int judge(int s, int hour) {
    List<Integer> bytes = tape;
    tape = new ArrayList<>();
    if (!isState(s) || !isHour(hour)) {
      return -2;
    }
    List<Integer> acts = new ArrayList<>();
    for (int b : bytes) {
      if (!isAct(b - 48)) {
        return -1;
      }
      acts.add(b - 48);
    }
    if (acts.isEmpty() || acts.size() > 100) {
      return -1;
    }
    int at = s;
    int done = 0;
    int won = 0;
    int spent = 0;
    int greatest = 0;
    for (int act : acts) {
      if (!isSafe(at, act, hour)) {
        break;
      }
      if (act % 3 == 1) {
        won += surely(at, act, hour);
      } else if (act % 3 == 2) {
        spent -= surely(at, act, hour);
      }
      greatest = Math.max(greatest, pullBy(at, act, high(at, hour)));
      at = go(at, act);
      done++;
    }
    boolean isLoop = done == acts.size() && at == s;
    judged = new int[] {at, won, spent, greatest, isLoop ? 1 : 0};
    judgedLoop = isLoop ? new Kept(s, acts, won - spent) : null;
    return done;
  }

  int judged(int what) {
    return judged != null && in(what, 0, 4) ? judged[what] : -1;
  }

  int keep(int slot) {
    if (!in(slot, 0, 5)) {
      return -2;
    }
    if (judgedLoop == null) {
      return -4;
    }
    kept[slot] = judgedLoop;
    return judgedLoop.acts().size();
  }

  private int actByRules(int s, int w) {
    for (Line line : rules) {
      boolean all = true;
      for (Cond c : line.conds()) {
        int value = switch (c.what()) {
          case "pull" -> pullBy(s, 0, w);
          case "height" -> height(s);
          case "rope" -> rope(s);
          case "column" -> column(s);
          default -> row(s);
        };
        all &= switch (c.how()) {
          case "above" -> value > c.bound();
          case "below" -> value < c.bound();
          default -> value == c.bound();
        };
      }
      if (all) {
        return line.act();
      }
    }
    return 0;
  }

  /** How the flight ended, its work, its state and how many ticks were done. */
  private int[] flight(int s, int hour, int ticks, int each, boolean byHigh, List<Integer> acts) {
    int at = s;
    int sum = 0;
    for (int t = 0; t < ticks; t++) {
      int h = (hour + t / each) % 24;
      int w = byHigh ? high(at, h) : low(at, h);
      int act = actByRules(at, w);
      if (go(at, act / 3 * 3) < 0) {
        act = act / 15 * 15 + act % 3;
      }
      if (go(at, act % 3) < 0) {
        act = act / 3 * 3;
      }
      int pull = pullBy(at, act, w);
      if (pull < n("weight") || pull > n("mark")) {
        return new int[] {pull < n("weight") ? 1 : 2, sum, at, t};
      }
      sum += work(act, pull);
      acts.add(act);
      at = go(at, act);
    }
    return new int[] {0, sum, at, ticks};
  }

  int fly(int s, int hour, int ticks, int each, boolean byHigh) {
    if (!isState(s) || !isHour(hour) || !in(ticks, 1, 500) || !in(each, 1, 60)) {
      return -2;
    }
    flownActs = new ArrayList<>();
    flown = flight(s, hour, ticks, each, byHigh, flownActs);
    return flown[3];
  }

  int flown(int what) {
    if (flown == null) {
      return NOTHING;
    }
    if (in(what, 0, 2)) {
      return flown[what];
    }
    return what >= 10 && what < 10 + flownActs.size() ? flownActs.get(what - 10) : NOTHING;
  }

  int held(int hour) {
    if (!isHour(hour)) {
      return -2;
    }
    int held = 0;
    for (int s = 0; s < states(); s++) {
      // 5 hours of 60 ticks would change the hour: so all hours are asked as this one
      held += staysUp(s, hour, false) && staysUp(s, hour, true) ? 1 : 0;
    }
    return held;
  }

  private boolean staysUp(int s, int hour, boolean byHigh) {
    int at = s;
    for (int t = 0; t < 200; t++) {
      int[] one = flight(at, hour, 1, 1, byHigh, new ArrayList<>());
      if (one[0] != 0) {
        return false;
      }
      at = one[2];
    }
    return true;
  }

  int tired(int n) {
    if (!in(n, 0, 1000000)) {
      return -2;
    }
    int was = tired;
    tired = n;
    return was;
  }

  private int[] statesOf(Kept loop) {
    int[] all = new int[loop.acts().size()];
    int at = loop.start();
    for (int i = 0; i < all.length; i++) {
      all[i] = at;
      at = go(at, loop.acts().get(i));
    }
    return all;
  }

  int rounds(int slot, int hour, int bound) {
    if (!in(slot, 0, 5) || !isHour(hour) || !in(bound, 0, 1000000)) {
      return -2;
    }
    if (kept[slot] == null) {
      return -4;
    }
    int[] at = statesOf(kept[slot]);
    long each = 0;
    for (int i = 0; i < at.length; i++) {
      int above = pullBy(at[i], kept[slot].acts().get(i), high(at[i], hour)) - n("tire");
      each += above > 0 ? above / 100 : 0;
    }
    long sum = tired;
    int rounds = 0;
    while (rounds < 100000 && sum + each <= bound) {
      sum += each;
      rounds++;
    }
    return rounds;
  }

  // ---- hours, fields, laws

  int plan(int from, int to, int each, int launch, int land, int fall) {
    boolean ok = isHour(from) && isHour(to) && from <= to && in(each, 1, 60)
        && in(launch, 0, 1000000) && in(land, 0, 1000000) && in(fall, 0, 1000000);
    if (!ok) {
      return -2000000000;
    }
    long[] gains = new long[24];
    for (int h = from; h <= to; h++) {
      Loop loop = loopOf(h);
      gains[h] = loop == null ? -fall : each * loop.sum() / loop.acts().size();
    }
    planned = new int[24];
    Arrays.fill(planned, -1);
    int count = to - from + 1;
    return (int) (count <= 12 ? planByAllRows(gains, from, count, launch, land)
        : planByTable(gains, from, to, launch, land));
  }

  /** All rows, the least first (the first hour counts most). */
  private long planByAllRows(long[] gains, int from, int count, int launch, int land) {
    long best = Long.MIN_VALUE;
    for (int row = 0; row < 1 << count; row++) {
      long sum = 0;
      int before = 0;
      for (int i = 0; i < count; i++) {
        int now = row >> count - 1 - i & 1;
        sum += now * gains[from + i] - (now > before ? launch : 0) - (now < before ? land : 0);
        before = now;
      }
      sum -= before * land;
      if (sum > best) {
        best = sum;
        for (int i = 0; i < count; i++) {
          planned[from + i] = row >> count - 1 - i & 1;
        }
      }
    }
    return best;
  }

  private long planByTable(long[] gains, int from, int to, int launch, int land) {
    long sum = most(gains, from, to, launch, land, false);
    boolean up = false;
    long rest = sum;
    for (int h = from; h <= to; h++) {
      long landed = up ? -land : 0;
      boolean stayDown = landed + most(gains, h + 1, to, launch, land, false) == rest;
      rest -= stayDown ? landed : (up ? 0 : -launch) + gains[h];
      up = !stayDown;
      planned[h] = up ? 1 : 0;
    }
    return sum;
  }

  private long most(long[] gains, int h, int to, int launch, int land, boolean up) {
    if (h > to) {
      return up ? -land : 0;
    }
    long[] down = new long[to + 2];
    long[] high = new long[to + 2];
    high[to + 1] = -land;
    for (int i = to; i >= h; i--) {
      down[i] = Math.max(down[i + 1], gains[i] - launch + high[i + 1]);
      high[i] = Math.max(down[i + 1] - land, gains[i] + high[i + 1]);
    }
    return up ? high[h] : down[h];
  }

  int planned(int hour) {
    return planned != null && isHour(hour) ? planned[hour] : -1;
  }

  private int least(Kept one, int x, Kept two, int y, int k) {
    int[] a = statesOf(one);
    int[] b = statesOf(two);
    int least = Integer.MAX_VALUE;
    for (int t = 0; t < a.length * b.length; t++) {
      int s = a[t % a.length];
      int s2 = b[(t + k) % b.length];
      least = Math.min(least,
          Math.abs(x + column(s) - y - column(s2)) + Math.abs(row(s) - row(s2)));
    }
    return least;
  }

  private int pairing(int slot, int x, int other, int y) {
    if (!in(slot, 0, 5) || !in(other, 0, 5) || !in(x, 0, 40) || !in(y, 0, 40)) {
      return -2;
    }
    return kept[slot] == null || kept[other] == null ? -4 : 0;
  }

  int apart(int slot, int x, int other, int y, int k) {
    int wrong = in(k, 0, 99) ? pairing(slot, x, other, y) : -2;
    return wrong < 0 ? wrong : least(kept[slot], x, kept[other], y, k);
  }

  int shift(int slot, int x, int other, int y) {
    int wrong = pairing(slot, x, other, y);
    if (wrong < 0) {
      return wrong;
    }
    int best = 0;
    int most = -1;
    for (int k = 0; k < kept[other].acts().size(); k++) {
      int least = least(kept[slot], x, kept[other], y, k);
      if (least > most) {
        most = least;
        best = k;
      }
    }
    return best;
  }

  int stand(int x, int slot) {
    if (!in(x, 0, 40) || !in(slot, 0, 5)) {
      return -2;
    }
    if (kept[slot] == null) {
      return -4;
    }
    if (stands.size() == 8) {
      return -3;
    }
    stands.add(new Stand(x, kept[slot]));
    fielded = 0;
    return stands.size() - 1;
  }

  int field() {
    int count = stands.size();
    boolean[][] meet = new boolean[count][count];
    for (int i = 0; i < count; i++) {
      for (int j = i + 1; j < count; j++) {
        Stand a = stands.get(i);
        Stand b = stands.get(j);
        meet[i][j] = least(a.loop(), a.site(), b.loop(), b.site(), 0) < 2;
      }
    }
    int best = Integer.MIN_VALUE;
    for (int set = 0; set < 1 << count; set++) {
      int sum = 0;
      boolean good = true;
      for (int i = 0; i < count; i++) {
        sum += (set >> i & 1) * stands.get(i).loop().worth();
        for (int j = i + 1; j < count; j++) {
          good &= !((set >> i & 1) == 1 && (set >> j & 1) == 1 && meet[i][j]);
        }
      }
      if (good && sum > best) {
        best = sum;
        fielded = set;
      }
    }
    return best;
  }

  int fielded() {
    return fielded;
  }

  int law(int from, int to, int height) {
    if (!isHour(from) || !isHour(to) || to < from || !in(height, 0, 9999)) {
      return -2;
    }
    if (laws.size() == 10) {
      return -3;
    }
    laws.add(new Law(from, to, height));
    return laws.size();
  }

  int breach(int slot, int hour, int each, int ticks) {
    if (!in(slot, 0, 5) || !isHour(hour) || !in(each, 1, 60) || !in(ticks, 1, 5000)) {
      return -2;
    }
    if (kept[slot] == null) {
      return -4;
    }
    int[] at = statesOf(kept[slot]);
    for (int t = 0; t < ticks; t++) {
      int h = (hour + t / each) % 24;
      for (Law law : laws) {
        if (law.from() <= h && h <= law.to() && height(at[t % at.length]) > law.height()) {
          return t;
        }
      }
    }
    return -1;
  }

  // ---- hidden

  int hidden(int n) {
    if (!in(n, 0, 20)) {
      return -2;
    }
    int was = hidden;
    hidden = n;
    return was;
  }

  int pulls(int s, int act, int hour) {
    boolean ok = isState(s) && isAct(act) && isHour(hour);
    return ok ? pullBy(s, act, low(s, hour) * hidden / 10) : -2;
  }

  private boolean isReading(int told, int low, int high) {
    return in(told, 0, 999) && told >= readStep && in(low, 0, 99999999) && in(high, 0, 99999999)
        && low <= high;
  }

  int read(int told, int s, int act, int hour, int low, int high) {
    if (!isReading(told, low, high) || !isState(s) || !isAct(act) || !isHour(hour)) {
      return -2;
    }
    if (readings.size() == 30) {
      return -3;
    }
    readings.add(new Reading(told, s, act, hour, low, high));
    readStep = told;
    return readings.size() - 1;
  }

  int right(int told, int k, int low, int high) {
    if (!isReading(told, low, high) || !in(k, 0, readings.size() - 1)) {
      return -2;
    }
    if (rightings.size() == 20) {
      return -3;
    }
    rightings.add(new Righting(told, k, low, high));
    readStep = told;
    return (int) rightings.stream().filter(r -> r.k() == k).count();
  }

  int fit(int known) {
    if (!in(known, 0, 999)) {
      return -2;
    }
    int bits = 0;
    for (int share = 0; share <= 20; share++) {
      boolean fits = true;
      for (int k = 0; k < readings.size(); k++) {
        Reading r = readings.get(k);
        if (r.step() > known) {
          continue;
        }
        int low = r.low();
        int high = r.high();
        for (Righting g : rightings) {
          if (g.k() == k && g.step() <= known) {
            low = g.low();
            high = g.high();
          }
        }
        int pull = pullBy(r.s(), r.act(), low(r.s(), r.hour()) * share / 10);
        fits &= low <= pull && pull <= high;
      }
      bits |= fits ? 1 << share : 0;
    }
    return bits;
  }

  int next(int s, int hour) {
    if (!isState(s) || !isHour(hour)) {
      return -2;
    }
    int shares = fit(999);
    int best = -1;
    int least = Integer.bitCount(shares);
    for (int act = 0; act < 15 * lift.size(); act++) {
      if (go(s, act) < 0) {
        continue;
      }
      Map<Integer, Integer> heaps = new HashMap<>();
      for (int share = 0; share <= 20; share++) {
        if ((shares >> share & 1) == 1) {
          heaps.merge(pullBy(s, act, low(s, hour) * share / 10), 1, Integer::sum);
        }
      }
      int greatest = heaps.values().stream().mapToInt(Integer::intValue).max().orElse(0);
      if (greatest < least) {
        least = greatest;
        best = act;
      }
    }
    return best;
  }

  int count(int what) {
    if (what >= 10 && what < 16) {
      return kept[what - 10] == null ? 0 : kept[what - 10].acts().size();
    }
    int[] all = {states(), winds.size(), stands.size(), laws.size(), readings.size(),
        rightings.size(), tired, tape.size()};
    return in(what, 0, 7) ? all[what] : -1;
  }
}
