/** Each sentence of "II. A STATE" and of promises 8 to 14 that names an edge, by its own words. */
public final class EdgesOfStatesTest {
  private static final Due DUE = new Due("EdgesOfStatesTest");
  private static final int NONE = KitePower.NONE;
  private static final int RANGE = KitePower.RANGE;
  private static final int FULL = KitePower.FULL;
  private static final int NOTHING = -100000000;
  private static final int LEAST = Integer.MIN_VALUE;
  private static final int MOST = Integer.MAX_VALUE;
  /** How many columns, rows and ropes. */
  private static final int[][] SIZES = {{2, 2, 2}, {5, 4, 6}, {6, 6, 8}, {3, 2, 4}, {2, 6, 3}};

  public static void main(String[] args) {
    for (int[] size : SIZES) {
      numbersOfStates(size[0], size[1], size[2]);
      leads(size[0], size[1], size[2]);
    }
    noState();
    heights();
    bands();
    noLeads();
    spans();
    spanRange();
    steps();
    refusedWinds();
    knownWinds();
    toldAtOnce();
    windsFull();
    windsRange();
    pullCuts();
    pullRange();
    safeEdges();
    safeSpans();
    safeRange();
    surely();
    workCuts();
    givesRange();
    DUE.end();
  }

  private static String text(int across, int high, int rope) {
    return "across " + across + ";high " + high + ";rope " + rope + ";";
  }

  // ---- states

  private static void numbersOfStates(int across, int high, int ropes) {
    DUE.by("its number: COLUMN and across times (ROW and high times ROPE)");
    String text = text(across, high, ropes);
    int s = 0;
    for (int rope = 0; rope < ropes; rope++) {
      KitePower x = Due.kite(text);
      DUE.is("count(0) of " + text, x.count(0), across * high * ropes);
      for (int row = 0; row < high; row++) {
        for (int column = 0; column < across; column++) {
          DUE.is("state(" + s + ", 0) of " + text, x.state(s, 0), column);
          DUE.is("state(" + s + ", 1) of " + text, x.state(s, 1), row);
          DUE.is("state(" + s + ", 2) of " + text, x.state(s, 2), rope);
          s++;
        }
      }
      DUE.is("behind the last of " + text, x.state(across * high * ropes, 0), NONE);
    }
  }

  private static void noState() {
    DUE.by("NONE: no such STATE, what.");
    KitePower x = new KitePower();
    for (int s : new int[] {-1, 120, 121, LEAST, MOST}) {
      for (int what = 0; what < 5; what++) {
        DUE.is("state(" + s + ", " + what + ")", x.state(s, what), NONE);
      }
    }
    for (int what : new int[] {-1, 5, 10, LEAST, MOST}) {
      DUE.is("state(0, " + what + ")", x.state(0, what), NONE);
      DUE.is("state(119, " + what + ")", x.state(119, what), NONE);
    }
    Due.tape(x, "across 2;").kite();
    DUE.is("state(47, 2)", x.state(47, 2), 5);
    DUE.is("state(48, 2) of a lesser KITE", x.state(48, 2), NONE);
  }

  private static void heights() {
    DUE.by("HEIGHT: unit times (ROPE + 1) times (ROW + 1) over high (cut)");
    int[] units = {5, 50, 17, 23, 49};
    for (int high = 2; high <= 6; high++) {
      for (int unit : units) {
        KitePower x = Due.kite(text(2, high, 8) + "unit " + unit + ";");
        for (int rope = 0; rope < 8; rope++) {
          for (int row = 0; row < high; row++) {
            int s = 2 * (row + high * rope);
            DUE.is("state(" + s + ", 3)", x.state(s, 3), unit * (rope + 1) * (row + 1) / high);
            DUE.is("state(" + (s + 1) + ", 3)", x.state(s + 1, 3), x.state(s, 3));
          }
        }
      }
    }
    DUE.is("5 times 1 times 1 over 6", Due.kite("high 6;unit 5;").state(0, 3), 0);
  }

  private static void band(int unit, int high, int rope, int row, int height, int band) {
    KitePower x = Due.kite(text(2, high, 8) + "unit " + unit + ";");
    int s = 2 * (row + high * rope);
    DUE.is("the HEIGHT of " + s, x.state(s, 3), height);
    DUE.is("the BAND of " + height, x.state(s, 4), band);
  }

  private static void bands() {
    DUE.by("BAND: HEIGHT over 40 (cut), 4 at most");
    band(5, 6, 0, 0, 0, 0);
    band(39, 2, 0, 1, 39, 0);
    band(40, 2, 0, 1, 40, 1);
    band(41, 2, 0, 1, 41, 1);
    band(17, 3, 6, 1, 79, 1);
    band(40, 2, 1, 1, 80, 2);
    band(17, 2, 6, 1, 119, 2);
    band(20, 2, 5, 1, 120, 3);
    band(38, 5, 6, 2, 159, 3);
    band(20, 2, 7, 1, 160, 4);
    band(40, 2, 4, 1, 200, 4);
    band(50, 2, 7, 1, 400, 4);
  }

  // ---- acts

  private static void leads(int across, int high, int ropes) {
    DUE.by("It can be done, if it stays within the STATES: of all ACTS in all corners");
    String text = text(across, high, ropes) + "lift 1 2 3;";
    int[] columns = {0, across - 1};
    int[] rows = {0, high - 1};
    int[] lengths = {0, ropes - 1};
    for (int corner = 0; corner < 8; corner++) {
      KitePower x = Due.kite(text);
      int column = columns[corner & 1];
      int row = rows[corner >> 1 & 1];
      int rope = lengths[corner >> 2];
      int s = column + across * (row + high * rope);
      for (int act = 0; act < 45; act++) {
        int move = act % 15 / 3;
        int c = column - (move == 1 ? 1 : 0) + (move == 2 ? 1 : 0);
        int r = row + (move == 3 ? 1 : 0) - (move == 4 ? 1 : 0);
        int p = rope + (act % 3 == 1 ? 1 : 0) - (act % 3 == 2 ? 1 : 0);
        boolean stays = c >= 0 && c < across && r >= 0 && r < high && p >= 0 && p < ropes;
        int want = stays ? c + across * (r + high * p) : NONE;
        DUE.is("leads(" + s + ", " + act + ") of " + text, x.leads(s, act), want);
        if (!stays) {
          DUE.is("safe(" + s + ", " + act + ", 0) of " + text, x.safe(s, act, 0), 0);
        }
      }
    }
  }

  private static void noLeads() {
    DUE.by("NONE: it can't be done; RANGE: no such STATE, ACT (0 .. 15 times SLANTS - 1)");
    String[] lifts = {"lift 1;", "lift 1 2;", "lift 1 2 3;"};
    for (int i = 0; i < 3; i++) {
      KitePower x = Due.kite(lifts[i]);
      int last = 15 * (i + 1) - 1;
      DUE.is("the last ACT, in the last STATE", x.leads(119, last), 94);
      DUE.is("the last ACT, in the first STATE", x.leads(0, last), NONE);
      for (int act : new int[] {-1, last + 1, last + 2, LEAST, MOST}) {
        DUE.is("leads(0, " + act + ")", x.leads(0, act), RANGE);
      }
      for (int s : new int[] {-1, 120, LEAST, MOST}) {
        DUE.is("leads(" + s + ", 0)", x.leads(s, 0), RANGE);
        DUE.is("leads(" + s + ", -1)", x.leads(s, -1), RANGE);
      }
    }
  }

  // ---- winds

  private static void spans() {
    DUE.by("for an hour (0 .. 23) and a BAND a span low .. high (0 .. 60; 10 .. 10 at first)");
    KitePower x = new KitePower();
    for (int hour = 0; hour < 24; hour++) {
      for (int band = 0; band < 5; band++) {
        DUE.is("winds(" + hour + ", " + band + ", 0)", x.winds(hour, band, 0), 1010);
      }
    }
    int[][] all = {{0, 0, 0, 0, 0}, {23, 4, 60, 60, 6060}, {0, 4, 0, 60, 60}, {23, 0, 59, 60, 5960},
        {12, 2, 0, 1, 1}};
    for (int i = 0; i < all.length; i++) {
      int[] a = all[i];
      DUE.is("wind", x.wind(0, a[0], a[1], a[2], a[3]), i + 1);
      DUE.is("winds(" + a[0] + ", " + a[1] + ", 0)", x.winds(a[0], a[1], 0), a[4]);
    }
    DUE.is("its neighbour", x.winds(0, 1, 0), 1010);
    DUE.is("its neighbour", x.winds(22, 4, 0), 1010);
    DUE.is("its neighbour", x.winds(1, 0, 0), 1010);
  }

  private static void spanRange() {
    DUE.by("A wind of an hour and BAND, told at a STEP: how many were told; RANGE");
    KitePower x = new KitePower();
    int[][] wrong = {{0, -1, 0, 1, 1}, {0, 24, 0, 1, 1}, {0, LEAST, 0, 1, 1}, {0, MOST, 0, 1, 1},
        {0, 0, -1, 1, 1}, {0, 0, 5, 1, 1}, {0, 0, LEAST, 1, 1}, {0, 0, MOST, 1, 1}, {0, 0, 0, -1, 1},
        {0, 0, 0, -1, -1}, {0, 0, 0, 61, 61}, {0, 0, 0, 1, 61}, {0, 0, 0, 2, 1}, {0, 0, 0, 60, 0},
        {0, 0, 0, LEAST, 1}, {0, 0, 0, 1, MOST}, {0, 0, 0, 0, -1}, {-1, 0, 0, 1, 1},
        {1000, 0, 0, 1, 1}, {LEAST, 0, 0, 1, 1}, {MOST, 0, 0, 1, 1}};
    for (int[] w : wrong) {
      DUE.is("wind", x.wind(w[0], w[1], w[2], w[3], w[4]), RANGE);
    }
    DUE.is("count(1)", x.count(1), 0);
    DUE.is("winds(0, 0, 999)", x.winds(0, 0, 999), 1010);
    DUE.is("the first that can be", x.wind(0, 0, 0, 1, 1), 1);
  }

  private static void steps() {
    DUE.by("each at a STEP of telling (0 .. 999, never falling)");
    KitePower x = new KitePower();
    DUE.is("step 0", x.wind(0, 0, 0, 1, 1), 1);
    DUE.is("step 0 again", x.wind(0, 0, 1, 1, 1), 2);
    DUE.is("step 5", x.wind(5, 0, 0, 2, 2), 3);
    DUE.is("step 4, of another hour", x.wind(4, 9, 3, 3, 3), RANGE);
    DUE.is("step 5 again", x.wind(5, 0, 0, 4, 4), 4);
    DUE.is("step 998", x.wind(998, 0, 0, 5, 5), 5);
    DUE.is("step 999", x.wind(999, 0, 0, 6, 6), 6);
    DUE.is("step 1000", x.wind(1000, 0, 0, 7, 7), RANGE);
    DUE.is("step 998, falling", x.wind(998, 0, 0, 7, 7), RANGE);
    DUE.is("step 0, falling", x.wind(0, 0, 0, 7, 7), RANGE);
    DUE.is("step 999 again", x.wind(999, 0, 0, 8, 8), 7);
    Due.tape(x, "").kite();
    DUE.is("step 998, behind kite()", x.wind(998, 0, 0, 7, 7), RANGE);
    DUE.is("a row of steps of its own", x.read(0, 0, 0, 0, 0, 0), 0);
  }

  private static void refusedWinds() {
    DUE.by("each at a STEP of telling (.. never falling): one that is refused tells none");
    KitePower x = new KitePower();
    DUE.is("step 7, hour 24", x.wind(7, 24, 0, 1, 1), RANGE);
    DUE.is("step 7, low above high", x.wind(7, 0, 0, 2, 1), RANGE);
    DUE.is("step 3", x.wind(3, 0, 0, 1, 1), 1);
    DUE.is("step 9, band 5", x.wind(9, 0, 5, 1, 1), RANGE);
    DUE.is("step 3", x.wind(3, 0, 0, 2, 2), 2);
    DUE.is("READ at step 9", x.read(9, 0, 0, 0, 0, 0), 0);
    DUE.is("step 3", x.wind(3, 0, 0, 3, 3), 3);
    DUE.is("winds(0, 0, 999)", x.winds(0, 0, 999), 303);
  }

  private static void knownWinds() {
    DUE.by("as KNOWN at a STEP: the latest told by then");
    KitePower x = new KitePower();
    x.wind(2, 3, 1, 5, 6);
    x.wind(2, 3, 1, 7, 8);
    x.wind(4, 3, 1, 9, 9);
    x.wind(6, 3, 2, 1, 1);
    x.wind(999, 3, 1, 0, 60);
    int[][] all = {{0, 1010}, {1, 1010}, {2, 708}, {3, 708}, {4, 909}, {5, 909}, {6, 909},
        {998, 909}, {999, 60}};
    for (int[] a : all) {
      DUE.is("winds(3, 1, " + a[0] + ")", x.winds(3, 1, a[0]), a[1]);
    }
    DUE.is("another BAND", x.winds(3, 2, 5), 1010);
    DUE.is("another BAND", x.winds(3, 2, 6), 101);
    DUE.is("another hour", x.winds(4, 1, 999), 1010);
  }

  private static void toldAtOnce() {
    DUE.by("Where none is named: all that is told");
    KitePower x = Due.kite("weight 0;");
    DUE.is("best(0)", x.best(0), 4);
    DUE.is("plan(0, 0, ..)", x.plan(0, 0, 1, 0, 0, 0), 650);
    DUE.is("wind at step 999", x.wind(999, 0, 0, 0, 20), 1);
    DUE.is("safe(0, 0, 0)", x.safe(0, 0, 0), 1);
    DUE.is("gives(0, 1, 0): by low", x.gives(0, 1, 0), 0);
    DUE.is("gives(0, 2, 0): by high", x.gives(0, 2, 0), -4000);
    DUE.is("pulls(0, 0, 0)", x.pulls(0, 0, 0), 0);
    x.fly(0, 0, 1, 1, true);
    DUE.is("judge(0, 0)", Due.judge(x, 0, 0, 0), 1);
    DUE.is("judged(3)", x.judged(3), 4000);
    Due.windsAll(x, 1, 0, 0);
    for (int band = 0; band < 5; band++) {
      x.wind(999, 0, band, 0, 0);
    }
    DUE.is("best(0)", x.best(0), 1);
    DUE.is("looped(0)", x.looped(0), 0);
    DUE.is("plan(0, 0, ..)", x.plan(0, 0, 1, 0, 0, 0), 0);
    x.wind(999, 0, 0, 60, 60);
    DUE.is("too much wind", x.safe(0, 0, 0), 0);
    DUE.is("held(0) without the lowest BAND", x.held(0), 120 - lowest(x));
  }

  private static int lowest(KitePower x) {
    int count = 0;
    for (int s = 0; s < x.count(0); s++) {
      count += x.state(s, 4) == 0 ? 1 : 0;
    }
    return count;
  }

  private static void windsFull() {
    DUE.by("at most 200 / RANGE; FULL.");
    KitePower x = new KitePower();
    for (int i = 1; i <= 199; i++) {
      x.wind(1, i % 24, i % 5, 1, 1);
    }
    DUE.is("the 200th", x.wind(1, 0, 0, 3, 4), 200);
    DUE.is("the 201st", x.wind(1, 0, 0, 5, 6), FULL);
    DUE.is("the 201st, at another step", x.wind(999, 9, 4, 5, 6), FULL);
    DUE.is("the 201st, no hour", x.wind(1, 24, 0, 5, 6), RANGE);
    DUE.is("the 201st, falling", x.wind(0, 0, 0, 5, 6), RANGE);
    DUE.is("the 201st, at step 1, since FULL tells none", x.wind(1, 0, 0, 5, 6), FULL);
    DUE.is("count(1)", x.count(1), 200);
    DUE.is("winds(0, 0, 999)", x.winds(0, 0, 999), 304);
    Due.tape(x, "").kite();
    DUE.is("winds stay behind kite()", x.wind(1, 0, 0, 5, 6), FULL);
  }

  private static void windsRange() {
    DUE.by("The wind of an hour and BAND as KNOWN at a STEP: 100 times low, and high; RANGE.");
    KitePower x = new KitePower();
    int[][] wrong = {{-1, 0, 0}, {24, 0, 0}, {LEAST, 0, 0}, {MOST, 0, 0}, {0, -1, 0}, {0, 5, 0},
        {0, LEAST, 0}, {0, MOST, 0}, {0, 0, -1}, {0, 0, 1000}, {0, 0, LEAST}, {0, 0, MOST}};
    for (int[] w : wrong) {
      DUE.is("winds(" + w[0] + ", " + w[1] + ", " + w[2] + ")", x.winds(w[0], w[1], w[2]), RANGE);
    }
    DUE.is("winds(23, 4, 999)", x.winds(23, 4, 999), 1010);
    x.wind(0, 0, 0, 0, 0);
    DUE.is("winds(0, 0, 0)", x.winds(0, 0, 0), 0);
  }

  // ---- pull and work

  private static void pullCuts() {
    DUE.by("times window of the COLUMN over 100 (cut); if MOVE is left or right, that times cross "
        + "over 100 (cut)");
    KitePower x = Due.kite("across 2;lift 1 99 0;window 33 1;cross 155;");
    // 49 * 33 = 1617: 16; 16 * 155 = 2480: 24 (and not 25 of 25.06)
    int[][] all = {{0, 0, 7, 16}, {0, 3, 7, 24}, {0, 6, 7, 24}, {0, 9, 7, 16}, {0, 12, 7, 16},
        {0, 1, 7, 16}, {0, 8, 7, 24}, {1, 0, 9, 0}, {1, 0, 10, 1}, {1, 3, 10, 1}, {1, 3, 12, 1},
        {1, 3, 15, 3}, {0, 15, 60, 117612}, {0, 18, 60, 182298}, {0, 0, 0, 0}, {0, 30, 60, 0},
        {0, 33, 60, 0}, {0, 0, 60, 1188}, {0, 0, 1, 0}, {0, 0, 2, 1}};
    for (int[] a : all) {
      DUE.is("pull(" + a[0] + ", " + a[1] + ", " + a[2] + ")", x.pull(a[0], a[1], a[2]), a[3]);
    }
    KitePower most = Due.kite("lift 99;cross 400;");
    DUE.is("the greatest that can be", most.pull(0, 3, 60), 1425600);
    DUE.is("cross 100", Due.kite("cross 100;").pull(0, 3, 10), 1000);
    DUE.is("window 0", Due.kite("window 0;").pull(0, 3, 60), 0);
  }

  private static void pullRange() {
    DUE.by("PULL of an ACT in a STATE by a wind (0 .. 60); RANGE. (Whether it can be done or not.)");
    KitePower x = new KitePower();
    int[][] all = {{0, 3, 10, 1500}, {0, 12, 10, 1000}, {0, 2, 10, 1000}, {119, 1, 10, 1000},
        {119, 29, 10, 200}, {0, 0, 61, RANGE}, {0, 0, -1, RANGE}, {0, 0, LEAST, RANGE},
        {0, 0, MOST, RANGE}, {-1, 0, 1, RANGE}, {120, 0, 1, RANGE}, {LEAST, 0, 1, RANGE},
        {MOST, 0, 1, RANGE}, {0, -1, 1, RANGE}, {0, 30, 1, RANGE}, {0, LEAST, 1, RANGE},
        {0, MOST, 1, RANGE}};
    for (int[] a : all) {
      DUE.is("pull(" + a[0] + ", " + a[1] + ", " + a[2] + ")", x.pull(a[0], a[1], a[2]), a[3]);
    }
  }

  private static void safeEdges() {
    DUE.by("it can be done, its PULL by high is not above mark, by low not below weight");
    int[][] all = {{1000, 1000, 1}, {1001, 2000, 0}, {1000, 2000, 1}, {999, 2000, 1}, {0, 999, 0},
        {0, 1000, 1}, {0, 1001, 1}};
    for (int[] a : all) {
      KitePower x = Due.kite("weight " + a[0] + ";mark " + a[1] + ";");
      DUE.is("weight " + a[0] + ", mark " + a[1], x.safe(0, 0, 0), a[2]);
      DUE.is("out", x.safe(0, 1, 0), a[2]);
      DUE.is("in, which can't be done", x.safe(0, 2, 0), 0);
      DUE.is("in", x.safe(20, 2, 0), a[2]);
    }
    KitePower calm = Due.kite("weight 0;");
    Due.windsAll(calm, 0, 0, 0);
    DUE.is("no PULL, no weight", calm.safe(0, 0, 0), 1);
    KitePower cross = Due.kite("weight 0;mark 1499;");
    DUE.is("stay", cross.safe(1, 0, 0), 1);
    DUE.is("left, by cross above mark", cross.safe(1, 3, 0), 0);
    DUE.is("right, by cross above mark", cross.safe(1, 6, 0), 0);
    DUE.is("left at the mark", Due.kite("mark 1500;").safe(1, 3, 0), 1);
  }

  private static void safeSpans() {
    DUE.by("An ACT is SAFE at an hour: by high .. by low, of that hour and the STATE's own BAND");
    KitePower x = Due.kite("weight 640;mark 1440;");
    int[][] all = {{8, 12, 1}, {7, 12, 0}, {8, 13, 0}, {7, 13, 0}, {8, 8, 1}, {12, 12, 1}, {0, 0, 0},
        {13, 13, 0}, {0, 60, 0}};
    for (int i = 0; i < all.length; i++) {
      x.wind(i, 5, 0, all[i][0], all[i][1]);
      DUE.is("by " + all[i][0] + " .. " + all[i][1], x.safe(0, 0, 5), all[i][2]);
      DUE.is("another hour", x.safe(0, 0, 4), 1);
      DUE.is("another hour", x.safe(0, 0, 6), 1);
      DUE.is("another BAND", x.safe(119, 0, 5), 1);
    }
    KitePower bands = Due.kite("across 2;high 2;rope 4;unit 40;");
    bands.wind(0, 0, 1, 0, 0);
    // HEIGHTS of row 1: 40, 80, 120, 160; of row 0: 20, 40, 60, 80
    int[] safe = {1, 0, 0, 1, 0, 1, 1, 1};
    for (int i = 0; i < safe.length; i++) {
      DUE.is("BAND " + bands.state(2 * i, 4), bands.safe(2 * i, 0, 0), safe[i]);
    }
  }

  private static void safeRange() {
    DUE.by("1 if an ACT is SAFE at an hour, else 0; RANGE.");
    KitePower x = new KitePower();
    int[][] wrong = {{-1, 0, 0}, {120, 0, 0}, {LEAST, 0, 0}, {MOST, 0, 0}, {0, -1, 0}, {0, 30, 0},
        {0, LEAST, 0}, {0, MOST, 0}, {0, 0, -1}, {0, 0, 24}, {0, 0, LEAST}, {0, 0, MOST}};
    for (int[] w : wrong) {
      DUE.is("safe(" + w[0] + ", " + w[1] + ", " + w[2] + ")", x.safe(w[0], w[1], w[2]), RANGE);
    }
    DUE.is("safe(119, 29, 23)", x.safe(119, 29, 23), 1);
  }

  private static void surely() {
    DUE.by("SURELY it gives: WORK by low (out), by high (in), 0 (hold)");
    KitePower x = Due.kite("loss 7;reel 50;");
    x.wind(0, 2, 0, 4, 20);
    int[][] all = {{0, 0, 2, 0}, {0, 3, 2, 0}, {0, 1, 2, 160 - 7}, {20, 2, 2, -2000 - 7},
        {20, 7, 2, 240 - 7}, {20, 8, 2, -3000 - 7}, {20, 16, 2, 32 - 7}, {20, 17, 2, -400 - 7},
        {20, 1, 3, 1000 - 7}, {20, 2, 3, -500 - 7}};
    for (int[] a : all) {
      DUE.is("gives(" + a[0] + ", " + a[1] + ", " + a[2] + ")", x.gives(a[0], a[1], a[2]), a[3]);
    }
  }

  private static void workCuts() {
    DUE.by("in: 0 less PULL times reel over 100 (cut), less loss; out: PULL less loss");
    KitePower x = Due.kite("lift 3;reel 33;loss 1;weight 0;");
    x.wind(0, 0, 0, 1, 1);
    x.wind(0, 1, 0, 0, 0);
    // 3 * 33 = 99: 0
    DUE.is("in, by 1", x.gives(20, 2, 0), -1);
    DUE.is("out, by 1", x.gives(0, 1, 0), 2);
    DUE.is("in, by 0", x.gives(20, 2, 1), -1);
    DUE.is("out, by 0: less than 0", x.gives(0, 1, 1), -1);
    KitePower none = Due.kite("reel 0;");
    DUE.is("reel 0", none.gives(20, 2, 0), 0);
    KitePower most = Due.kite("lift 99;cross 400;reel 400;loss 9999;");
    most.wind(0, 0, 0, 60, 60);
    DUE.is("the least that can be", most.gives(20, 5, 0), -5712399);
    DUE.is("the most that can be", most.gives(20, 4, 0), 1425600 - 9999);
    DUE.is("reel 400, of 1000", Due.kite("reel 400;").gives(20, 2, 0), -4000);
  }

  private static void givesRange() {
    DUE.by("RANGE (-100000000). (Whether SAFE or not.)");
    KitePower x = Due.kite("weight 9999;mark 1;");
    DUE.is("fallen and broken", x.gives(0, 1, 0), 1000);
    DUE.is("can't be done", x.gives(0, 2, 0), -1000);
    DUE.is("can't be done", x.gives(119, 7, 0), 1500);
    int[][] wrong = {{-1, 0, 0}, {120, 0, 0}, {LEAST, 0, 0}, {MOST, 0, 0}, {0, -1, 0}, {0, 30, 0},
        {0, LEAST, 0}, {0, MOST, 0}, {0, 0, -1}, {0, 0, 24}, {0, 0, LEAST}, {0, 0, MOST}};
    for (int[] w : wrong) {
      DUE.is("gives(" + w[0] + ", " + w[1] + ", " + w[2] + ")", x.gives(w[0], w[1], w[2]), NOTHING);
    }
  }
}
