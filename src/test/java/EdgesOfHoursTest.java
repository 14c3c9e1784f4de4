/** Each sentence of "IV. HOURS" and of promises 25 to 33 that names an edge, by its own words. */
public final class EdgesOfHoursTest {
  private static final Due DUE = new Due("EdgesOfHoursTest");
  private static final int NONE = KitePower.NONE;
  private static final int RANGE = KitePower.RANGE;
  private static final int FULL = KitePower.FULL;
  private static final int STATE = KitePower.STATE;
  private static final int NO_PLAN = -2000000000;
  private static final int LEAST = Integer.MIN_VALUE;
  private static final int MOST = Integer.MAX_VALUE;

  public static void main(String[] args) {
    costs();
    cutTowards0();
    fall();
    leastRow();
    hoursNotRound();
    planRange();
    plannedOthers();
    apartAdded();
    apartAtEachTick();
    apartRefused();
    shiftLeast();
    shiftRefused();
    standRefused();
    standAsItIsNow();
    fieldEmpty();
    fieldGood();
    fieldLeast();
    fieldWorths();
    fieldedSince();
    lawRefused();
    lawEdges();
    breachTicks();
    breachGoesRound();
    breachRefused();
    DUE.end();
  }

  private static void planned(KitePower x, int from, int... want) {
    for (int i = 0; i < want.length; i++) {
      DUE.is("planned(" + (from + i) + ")", x.planned(from + i), want[i]);
    }
  }

  private static KitePower calm(int... hours) {
    KitePower x = new KitePower();
    for (int hour : hours) {
      Due.windsAll(x, hour, 0, 0);
    }
    return x;
  }

  // ---- plans: a tick of the untold KITE gives 650, and there is no LOOP without wind

  private static void costs() {
    DUE.by("landed ahead of the first .. to launch ahead of an hour and to land behind one (also behind "
        + "the last) cost told numbers; a landed hour gives 0");
    KitePower x = calm(2);
    DUE.is("one hour", x.plan(5, 5, 1, 100, 20, 0), 530);
    planned(x, 4, NONE, 1, NONE);
    DUE.is("the first hour of the day", x.plan(0, 0, 1, 100, 20, 0), 530);
    DUE.is("the last hour of the day", x.plan(23, 23, 1, 100, 20, 0), 530);
    DUE.is("two hours, launched once", x.plan(5, 6, 1, 100, 20, 0), 1180);
    DUE.is("landed between", x.plan(1, 3, 1, 100, 20, 121), 1060);
    planned(x, 0, NONE, 1, 0, 1, NONE);
    DUE.is("landed last", x.plan(1, 2, 1, 100, 20, 1), 530);
    planned(x, 1, 1, 0);
    DUE.is("landed first", x.plan(2, 3, 1, 100, 20, 1), 530);
    planned(x, 2, 0, 1);
    DUE.is("not worth launching", x.plan(5, 5, 1, 651, 0, 0), 0);
    planned(x, 5, 0);
    DUE.is("not worth landing", x.plan(5, 5, 1, 0, 651, 0), 0);
    planned(x, 5, 0);
    DUE.is("just worth it", x.plan(5, 5, 1, 0, 649, 0), 1);
    planned(x, 5, 1);
    DUE.is("just worth it", x.plan(5, 5, 1, 649, 0, 0), 1);
    planned(x, 5, 1);
    DUE.is("no costs", x.plan(5, 6, 60, 0, 0, 0), 78000);
  }

  private static void cutTowards0() {
    DUE.by("A flown hour gives so many ticks times MEAN of its BEST LOOP (cut towards 0)");
    // hour 1: out gives 750, in costs 757: -7 over 2; the others: out 845, in 741: 104 over 2
    KitePower x = Due.kite("across 2;high 2;rope 2;unit 50;lift 10;window 50 100;weight 700;mark 900;"
        + "reel 103;");
    for (int hour = 0; hour < 3; hour++) {
      x.wind(0, hour, 0, hour == 1 ? 10 : 13, hour == 1 ? 10 : 13);
      x.wind(0, hour, 1, hour == 1 ? 7 : 12, hour == 1 ? 7 : 12);
      x.wind(0, hour, 2, hour == 1 ? 0 : 10, hour == 1 ? 0 : 10);
    }
    DUE.is("best(1)", x.best(1), 2);
    DUE.is("looped(0)", x.looped(0), -7);
    DUE.is("best(0)", x.best(0), 2);
    DUE.is("looped(0)", x.looped(0), 104);
    DUE.is("-3.5 is -3", x.plan(0, 2, 1, 10, 10, 0), 52 - 3 + 52 - 20);
    planned(x, 0, 1, 1, 1);
    DUE.is("3 times -3.5 is -10", x.plan(0, 2, 3, 10, 10, 0), 156 - 10 + 156 - 20);
    DUE.is("2 times -3.5 is -7", x.plan(0, 2, 2, 10, 10, 0), 104 - 7 + 104 - 20);
    DUE.is("a loss is not flown alone", x.plan(1, 1, 60, 0, 0, 0), 0);
    planned(x, 1, 0);
    KitePower odd = Due.kite("across 2;high 2;rope 2;weight 0;lift 5;window 100 0;cross 151;");
    DUE.is("377.5 is 377", odd.plan(0, 0, 1, 0, 0, 0), 377);
    DUE.is("each hour by itself", odd.plan(0, 1, 1, 0, 0, 0), 754);
    DUE.is("59 times 377.5", odd.plan(0, 0, 59, 0, 0, 0), 22272);
  }

  private static void fall() {
    DUE.by("or costs a fall, if it has none");
    KitePower x = calm(1);
    DUE.is("a fall as dear as to land and launch", x.plan(0, 2, 1, 100, 20, 120), 1060);
    planned(x, 0, 1, 0, 1);
    DUE.is("a fall that costs less", x.plan(0, 2, 1, 100, 20, 119), 1061);
    planned(x, 0, 1, 1, 1);
    DUE.is("a fall that costs nothing", x.plan(0, 2, 1, 100, 20, 0), 1180);
    planned(x, 0, 1, 1, 1);
    DUE.is("with costs of nothing", x.plan(0, 2, 1, 0, 0, 0), 1300);
    planned(x, 0, 1, 0, 1);
    DUE.is("alone", x.plan(1, 1, 1, 0, 0, 1000000), 0);
    planned(x, 1, 0);
    KitePower two = calm(1, 2);
    DUE.is("two falls as dear", two.plan(0, 3, 1, 100, 20, 60), 1060);
    planned(two, 0, 1, 0, 0, 1);
    DUE.is("two falls that cost less", two.plan(0, 3, 1, 100, 20, 59), 1062);
    planned(two, 0, 1, 1, 1, 1);
  }

  private static void leastRow() {
    DUE.by("PLAN: the greatest sum; then the least row (0 landed, 1 flown)");
    KitePower x = new KitePower();
    DUE.is("as good as nothing", x.plan(5, 5, 1, 325, 325, 0), 0);
    planned(x, 5, 0);
    DUE.is("two hours as good as nothing", x.plan(5, 6, 1, 650, 650, 0), 0);
    planned(x, 5, 0, 0);
    // at hours 5 and 7 to hold is all there is, and gives 0
    for (int hour = 5; hour <= 7; hour += 2) {
      Due.windsAll(x, hour, 5, 60);
      for (int band = 0; band < 5; band++) {
        x.wind(0, hour, band, 8, 36);
      }
      DUE.is("looped(0)", x.best(hour) == 1 ? x.looped(0) : NONE, 0);
    }
    DUE.is("nothing at both ends", x.plan(5, 7, 1, 0, 0, 0), 650);
    planned(x, 5, 0, 1, 0);
    DUE.is("nothing in the middle, no costs", x.plan(6, 8, 1, 0, 0, 0), 1300);
    planned(x, 6, 1, 0, 1);
    DUE.is("nothing in the middle, costs", x.plan(6, 8, 1, 1, 0, 0), 1299);
    planned(x, 6, 1, 1, 1);
    DUE.is("nothing in the middle, costs", x.plan(6, 8, 1, 0, 1, 0), 1299);
    planned(x, 6, 1, 1, 1);
    DUE.is("nothing at all", x.plan(5, 5, 60, 0, 0, 0), 0);
    planned(x, 5, 0);
    DUE.is("a LOOP of one ACT is no fall", x.plan(6, 8, 1, 1, 1, 1000000), 1298);
    planned(x, 6, 1, 1, 1);
    KitePower calm = calm(1, 3);
    DUE.is("one flight or three, or none", calm.plan(0, 4, 1, 400, 250, 650), 0);
    planned(calm, 0, 0, 0, 0, 0, 0);
    DUE.is("a greater sum goes ahead", calm.plan(0, 4, 1, 400, 249, 650), 3);
    planned(calm, 0, 1, 0, 1, 0, 1);
  }

  private static void hoursNotRound() {
    DUE.by("for hours h .. g (not round)");
    KitePower x = new KitePower();
    DUE.is("all", x.plan(0, 23, 1, 0, 0, 0), 24 * 650);
    DUE.is("planned(0)", x.planned(0), 1);
    DUE.is("planned(23)", x.planned(23), 1);
    DUE.is("22 .. 23", x.plan(22, 23, 1, 0, 0, 0), 1300);
    planned(x, 20, NONE, NONE, 1, 1, NONE);
    DUE.is("planned(0)", x.planned(0), NONE);
    DUE.is("23 .. 0", x.plan(23, 0, 1, 0, 0, 0), NO_PLAN);
    DUE.is("1 .. 0", x.plan(1, 0, 1, 0, 0, 0), NO_PLAN);
    DUE.is("23 .. 23", x.plan(23, 23, 1, 0, 0, 0), 650);
    planned(x, 22, NONE, 1, NONE);
  }

  private static void planRange() {
    DUE.by("with ticks an hour (1 .. 60), what a launch, a landing, a fall cost (0 .. 1000000): the sum; "
        + "RANGE (-2000000000)");
    KitePower x = new KitePower();
    x.plan(7, 8, 1, 0, 0, 0);
    int[][] wrong = {{-1, 0, 1, 0, 0, 0}, {LEAST, 0, 1, 0, 0, 0}, {24, 24, 1, 0, 0, 0},
        {MOST, MOST, 1, 0, 0, 0}, {0, 24, 1, 0, 0, 0}, {0, MOST, 1, 0, 0, 0}, {0, -1, 1, 0, 0, 0},
        {-2, -1, 1, 0, 0, 0}, {0, 0, 0, 0, 0, 0}, {0, 0, -1, 0, 0, 0}, {0, 0, 61, 0, 0, 0},
        {0, 0, LEAST, 0, 0, 0}, {0, 0, MOST, 0, 0, 0}};
    for (int[] w : wrong) {
      DUE.is("plan", x.plan(w[0], w[1], w[2], w[3], w[4], w[5]), NO_PLAN);
    }
    for (int bad : new int[] {-1, 1000001, LEAST, MOST}) {
      DUE.is("a launch costs " + bad, x.plan(0, 0, 1, bad, 0, 0), NO_PLAN);
      DUE.is("a landing costs " + bad, x.plan(0, 0, 1, 0, bad, 0), NO_PLAN);
      DUE.is("a fall costs " + bad, x.plan(0, 0, 1, 0, 0, bad), NO_PLAN);
    }
    planned(x, 6, NONE, 1, 1, NONE);
    DUE.is("all dearest", x.plan(0, 23, 60, 1000000, 1000000, 1000000), 0);
    DUE.is("60 ticks an hour", x.plan(0, 23, 60, 468000, 467999, 1000000), 1);
  }

  private static void plannedOthers() {
    DUE.by("Of the latest plan() that was not RANGE: 1 if an hour is flown, 0 if landed; NONE: none such");
    KitePower x = calm(4);
    for (int hour : new int[] {0, 23, -1, 24}) {
      DUE.is("planned(" + hour + ") ahead of any", x.planned(hour), NONE);
    }
    DUE.is("RANGE", x.plan(3, 2, 1, 0, 0, 0), NO_PLAN);
    DUE.is("planned(3) behind RANGE alone", x.planned(3), NONE);
    x.plan(3, 5, 1, 0, 0, 0);
    planned(x, 2, NONE, 1, 0, 1, NONE);
    x.plan(3, 5, 0, 0, 0, 0);
    Due.windsAll(x, 3, 0, 0);
    x.best(3);
    planned(x, 2, NONE, 1, 0, 1, NONE);
    for (int hour : new int[] {-1, 24, LEAST, MOST}) {
      DUE.is("planned(" + hour + ")", x.planned(hour), NONE);
    }
    Due.tape(x, "").kite();
    planned(x, 2, NONE, 1, 0, 1, NONE);
    x.plan(5, 5, 1, 0, 0, 0);
    planned(x, 2, NONE, NONE, NONE, 1, NONE);
  }

  // ---- kites side by side

  /** The COLUMNS and ROWS of the LOOPS of loops(), by slots. */
  private static final int[][] COLUMNS = {{1}, {4}, {0, 1, 2, 1}, {0, 1, 0}, {1, 0, 0, 1}};
  private static final int[][] ROWS = {{3}, {1}, {0, 0, 0, 0}, {2, 2, 2}, {1, 1, 2, 2}};

  private static KitePower loops() {
    KitePower x = new KitePower();
    Due.keep(x, 0, 1 + 5 * (3 + 4 * 0), 0);
    Due.keep(x, 1, 4 + 5 * (1 + 4 * 2), 15);
    Due.keep(x, 2, 0, 7, 6, 5, 3);
    Due.keep(x, 3, 10, 6, 3, 0);
    Due.keep(x, 4, 6, 3, 9, 6, 12);
    return x;
  }

  private static int least(int a, int x, int b, int y, int k) {
    int least = MOST;
    int tall = COLUMNS[a].length;
    int tall2 = COLUMNS[b].length;
    for (int t = 0; t < tall * tall2; t++) {
      int i = t % tall;
      int j = (t + k) % tall2;
      least = Math.min(least, Math.abs(x + COLUMNS[a][i] - y - COLUMNS[b][j])
          + Math.abs(ROWS[a][i] - ROWS[b][j]));
    }
    return least;
  }

  private static void apartAdded() {
    DUE.by("they are APART by the COLUMNS (SITE and COLUMN) and the ROWS, both without sign, added");
    KitePower x = loops();
    int[][] all = {{0, 0, 1, 0, 5}, {1, 0, 0, 0, 5}, {0, 7, 1, 2, 4}, {1, 2, 0, 7, 4}, {0, 2, 1, 7, 10},
        {0, 0, 1, 40, 45}, {0, 40, 1, 0, 39}, {0, 40, 1, 40, 5}, {0, 3, 1, 0, 2}, {0, 0, 0, 0, 0},
        {0, 0, 0, 40, 40}, {0, 40, 0, 0, 40}};
    for (int[] a : all) {
      DUE.is("apart(" + a[0] + ", " + a[1] + ", " + a[2] + ", " + a[3] + ", 0)",
          x.apart(a[0], a[1], a[2], a[3], 0), a[4]);
    }
    KitePower large = Due.kite("across 6;high 6;rope 8;");
    Due.keep(large, 0, 0, 0);
    Due.keep(large, 5, 287, 0);
    DUE.is("the farthest that can be", large.apart(0, 0, 5, 40, 0), 50);
  }

  private static void apartAtEachTick() {
    DUE.by("at tick t the ACT t + k of it is next, going round / a shift k (0 .. 99) / (they may be one)");
    for (int slot = 0; slot < 5; slot++) {
      KitePower x = loops();
      for (int other = 0; other < 5; other++) {
        for (int k : new int[] {0, 1, 2, 3, 4, 5, 6, 11, 97, 98, 99}) {
          DUE.is("apart(" + slot + ", 2, " + other + ", 1, " + k + ")", x.apart(slot, 2, other, 1, k),
              least(slot, 2, other, 1, k));
          DUE.is("apart(" + slot + ", 1, " + other + ", 3, " + k + ")", x.apart(slot, 1, other, 3, k),
              least(slot, 1, other, 3, k));
        }
      }
    }
    KitePower x = new KitePower();
    int[] there = new int[100];
    java.util.Arrays.fill(there, 0, 2, 6);
    java.util.Arrays.fill(there, 98, 100, 3);
    Due.keep(x, 0, 0, there);
    Due.keep(x, 1, 0, 0);
    Due.keep(x, 2, 2, new int[99]);
    // COLUMNS 0, 1, 2 .. 2, 1
    DUE.is("100 ACTS by one", x.apart(0, 0, 1, 0, 99), 0);
    DUE.is("100 ACTS by 99: each meets each", x.apart(0, 0, 2, 0, 0), 0);
    DUE.is("100 ACTS by 99: each meets each", x.apart(0, 0, 2, 3, 5), 3);
    DUE.is("100 ACTS by 99: each meets each", x.apart(2, 0, 0, 3, 5), 1);
    DUE.is("100 ACTS by themselves, 99 later", x.apart(0, 0, 0, 2, 99), 1);
    DUE.is("100 ACTS by themselves", x.apart(0, 0, 0, 2, 0), 2);
  }

  private static void apartRefused() {
    DUE.by("The least APART of two KEPT LOOPS on SITES (0 .. 40) with a shift k (0 .. 99); RANGE; STATE: "
        + "one isn't KEPT");
    KitePower x = loops();
    int[][] all = {{-1, 0, 0, 0, 0, RANGE}, {6, 0, 0, 0, 0, RANGE}, {0, -1, 0, 0, 0, RANGE},
        {0, 41, 0, 0, 0, RANGE}, {0, 0, -1, 0, 0, RANGE}, {0, 0, 6, 0, 0, RANGE},
        {0, 0, 0, -1, 0, RANGE}, {0, 0, 0, 41, 0, RANGE}, {0, 0, 0, 0, -1, RANGE},
        {0, 0, 0, 0, 100, RANGE}, {LEAST, 0, 0, 0, 0, RANGE}, {0, MOST, 0, 0, 0, RANGE},
        {0, 0, MOST, 0, 0, RANGE}, {0, 0, 0, LEAST, 0, RANGE}, {0, 0, 0, 0, MOST, RANGE},
        {5, 0, 0, 0, 0, STATE}, {0, 0, 5, 0, 0, STATE}, {5, 0, 5, 0, 0, STATE},
        {5, 41, 0, 0, 0, RANGE}, {5, 0, 5, 0, 100, RANGE}, {5, 0, 6, 0, 0, RANGE},
        {0, 40, 0, 40, 99, 0}, {4, 0, 4, 0, 0, 0}};
    for (int[] a : all) {
      DUE.is("apart(" + a[0] + ", " + a[1] + ", " + a[2] + ", " + a[3] + ", " + a[4] + ")",
          x.apart(a[0], a[1], a[2], a[3], a[4]), a[5]);
    }
  }

  private static void shiftLeast() {
    DUE.by("BEST SHIFT (k from 0 to the second's length less 1): the greatest least APART; then the "
        + "least k");
    for (int slot = 0; slot < 5; slot++) {
      KitePower x = loops();
      for (int other = 0; other < 5; other++) {
        for (int[] sites : new int[][] {{0, 0}, {0, 1}, {1, 0}, {3, 1}, {38, 40}, {40, 39}, {20, 25}}) {
          int best = 0;
          for (int k = 1; k < COLUMNS[other].length; k++) {
            if (least(slot, sites[0], other, sites[1], k) > least(slot, sites[0], other, sites[1], best)) {
              best = k;
            }
          }
          DUE.is("shift(" + slot + ", " + sites[0] + ", " + other + ", " + sites[1] + ")",
              x.shift(slot, sites[0], other, sites[1]), best);
        }
      }
    }
    KitePower x = new KitePower();
    Due.keep(x, 0, 0, 6, 3, 0);
    Due.keep(x, 1, 1, 3, 0, 6);
    DUE.is("the last k: COLUMNS 0 1 0 by 2 1 1", x.shift(0, 0, 1, 1), 2);
    DUE.is("its least APART", x.apart(0, 0, 1, 1, 2), 1);
    DUE.is("that of k 0", x.apart(0, 0, 1, 1, 0), 0);
    // the second is the first, one tick ahead: 99 later they go side by side
    Due.keep(x, 2, 0, bulge(96));
    Due.keep(x, 3, 0, bulge(95));
    DUE.is("k 99 of 100", x.shift(2, 0, 3, 10), 99);
    DUE.is("its least APART", x.apart(2, 0, 3, 10, 99), 10);
    DUE.is("that of k 98", x.apart(2, 0, 3, 10, 98), 9);
    DUE.is("the other way round", x.shift(3, 0, 2, 10), 1);
    DUE.is("by itself", x.shift(2, 0, 2, 10), 0);
  }

  /** 100 ACTS that stay, but for 2 COLUMNS there and back from a tick on. */
  private static int[] bulge(int from) {
    int[] acts = new int[100];
    acts[from] = 6;
    acts[from + 1] = 6;
    acts[from + 2] = 3;
    acts[from + 3] = 3;
    return acts;
  }

  private static void shiftRefused() {
    DUE.by("BEST SHIFT: k; RANGE; STATE.");
    KitePower x = loops();
    int[][] all = {{-1, 0, 0, 0, RANGE}, {6, 0, 0, 0, RANGE}, {0, -1, 0, 0, RANGE}, {0, 41, 0, 0, RANGE},
        {0, 0, -1, 0, RANGE}, {0, 0, 6, 0, RANGE}, {0, 0, 0, -1, RANGE}, {0, 0, 0, 41, RANGE},
        {LEAST, 0, 0, 0, RANGE}, {0, MOST, 0, 0, RANGE}, {0, 0, MOST, 0, RANGE}, {0, 0, 0, LEAST, RANGE},
        {5, 0, 0, 0, STATE}, {0, 0, 5, 0, STATE}, {5, 0, 5, 0, STATE}, {5, 41, 0, 0, RANGE},
        {0, 0, 5, 41, RANGE}, {0, 40, 0, 0, 0}};
    for (int[] a : all) {
      DUE.is("shift(" + a[0] + ", " + a[1] + ", " + a[2] + ", " + a[3] + ")",
          x.shift(a[0], a[1], a[2], a[3]), a[4]);
    }
    Due.tape(x, "").kite();
    DUE.is("behind kite()", x.shift(0, 0, 0, 0), STATE);
  }

  // ---- fields

  private static void standRefused() {
    DUE.by("A stand in the FIELD: its number; RANGE: no such SITE, slot; STATE: none is KEPT there; FULL");
    KitePower x = loops();
    int[][] wrong = {{-1, 0}, {41, 0}, {LEAST, 0}, {MOST, 0}, {0, -1}, {0, 6}, {0, LEAST}, {0, MOST},
        {41, 5}};
    for (int round = 0; round < 2; round++) {
      for (int[] w : wrong) {
        DUE.is("stand(" + w[0] + ", " + w[1] + ")", x.stand(w[0], w[1]), RANGE);
      }
      DUE.is("none is KEPT", x.stand(0, 5), STATE);
      DUE.is("count(2)", x.count(2), 8 * round);
      for (int i = 0; i < 8; i++) {
        DUE.is("stand", x.stand(i % 2 == 0 ? 0 : 40, i % 5), round == 0 ? i : FULL);
      }
    }
    Due.tape(x, "").kite();
    DUE.is("count(2) behind kite()", x.count(2), 0);
    DUE.is("none is KEPT behind kite()", x.stand(0, 0), STATE);
    Due.keep(x, 0, 0, 0);
    DUE.is("numbered anew", x.stand(0, 0), 0);
  }

  private static void standAsItIsNow() {
    DUE.by("(It is as its LOOP is now, whatever is KEPT there later.)");
    KitePower x = new KitePower();
    Due.keep(x, 0, 0, 1, 17);
    x.stand(0, 0);
    Due.keep(x, 0, 4, 1, 1, 17, 17);
    x.stand(0, 0);
    DUE.is("4 COLUMNS apart", x.field(), 800 + 1600);
    DUE.is("fielded()", x.fielded(), 3);
    Due.keep(x, 0, 0, 0);
    DUE.is("field()", x.field(), 2400);
    x.stand(1, 0);
    DUE.is("one more, worth 0", x.field(), 2400);
    DUE.is("fielded()", x.fielded(), 3);
  }

  private static void fieldEmpty() {
    DUE.by("BEST FIELD: its sum (0 without stands).");
    KitePower x = new KitePower();
    DUE.is("field()", x.field(), 0);
    DUE.is("fielded()", x.fielded(), 0);
    Due.keep(x, 0, 0, 0);
    x.stand(0, 0);
    DUE.is("a stand worth 0", x.field(), 0);
    DUE.is("the least set", x.fielded(), 0);
    KitePower losing = Due.kite("loss 1001;");
    Due.keep(losing, 0, 0, 1, 17);
    for (int i = 0; i < 8; i++) {
      losing.stand(5 * i, 0);
    }
    DUE.is("all below 0", losing.field(), 0);
    DUE.is("none of them", losing.fielded(), 0);
    x.stand(0, 0);
    x.stand(1, 0);
    DUE.is("three that MEET, worth 0", x.field(), 0);
    DUE.is("none of them", x.fielded(), 0);
  }

  private static void fieldGood() {
    DUE.by("A set of stands is GOOD, if no two of them MEET with k 0. They MEET, if that is ever below 2");
    for (int between = 0; between < 4; between++) {
      KitePower x = new KitePower();
      Due.keep(x, 0, 0, 1, 17);
      x.stand(20, 0);
      x.stand(20 + between, 0);
      DUE.is(between + " SITES apart", x.field(), between < 2 ? 800 : 1600);
      DUE.is("fielded()", x.fielded(), between < 2 ? 1 : 3);
      KitePower back = new KitePower();
      Due.keep(back, 0, 0, 1, 17);
      back.stand(20 + between, 0);
      back.stand(20, 0);
      DUE.is(between + " SITES apart, the other first", back.field(), between < 2 ? 800 : 1600);
    }
    KitePower rows = new KitePower();
    Due.keep(rows, 0, 0, 1, 17);
    Due.keep(rows, 1, 5, 1, 17);
    Due.keep(rows, 2, 10, 1, 17);
    rows.stand(0, 0);
    rows.stand(0, 1);
    rows.stand(0, 2);
    DUE.is("ROWS 0 and 2", rows.field(), 1600);
    DUE.is("fielded()", rows.fielded(), 5);
    rows.stand(1, 1);
    rows.stand(1, 2);
    DUE.is("ROWS 0 and 2 at SITE 0, ROW 1 at SITE 1", rows.field(), 2400);
    DUE.is("fielded()", rows.fielded(), 13);
    KitePower ever = new KitePower();
    // COLUMNS 0 1 0 1 and 2 1 0 1: at tick 0 they are 2 apart, later they meet
    Due.keep(ever, 0, 0, 7, 5);
    Due.keep(ever, 1, 2, 4, 3, 23, 6);
    ever.stand(10, 0);
    ever.stand(10, 1);
    DUE.is("MEET at later ticks", ever.apart(0, 10, 1, 10, 0), 0);
    DUE.is("a tick later", ever.apart(0, 10, 1, 10, 1), 1);
    DUE.is("the better one of both", ever.field(), 1200);
    DUE.is("fielded()", ever.fielded(), 2);
  }

  private static void fieldLeast() {
    DUE.by("BEST FIELD: the greatest sum of worths; then the least set (bits)");
    KitePower x = new KitePower();
    Due.keep(x, 0, 0, 1, 17);
    for (int i = 0; i < 8; i++) {
      x.stand(i, 0);
    }
    DUE.is("every other one", x.field(), 3200);
    DUE.is("fielded()", x.fielded(), 85);
    KitePower wide = new KitePower();
    Due.keep(wide, 0, 0, 1, 17);
    for (int i = 0; i < 8; i++) {
      wide.stand(40 - 2 * i, 0);
    }
    DUE.is("all 8", wide.field(), 6400);
    DUE.is("fielded()", wide.fielded(), 255);
    KitePower same = new KitePower();
    Due.keep(same, 0, 0, 0);
    Due.keep(same, 1, 0, 1, 17);
    same.stand(0, 0);
    same.stand(9, 1);
    same.stand(9, 1);
    same.stand(20, 0);
    DUE.is("the first of the same, without those worth 0", same.field(), 800);
    DUE.is("fielded()", same.fielded(), 2);
    KitePower sum = new KitePower();
    Due.keep(sum, 0, 0, 1, 17);
    Due.keep(sum, 1, 0, 7, 4, 17, 17);
    sum.stand(0, 0);
    sum.stand(1, 1);
    sum.stand(2, 0);
    DUE.is("one of 2600 is more than two of 800", sum.field(), 2600);
    DUE.is("fielded()", sum.fielded(), 2);
  }

  private static void fieldWorths() {
    DUE.by("the greatest sum of worths (won less spent of each one's LOOP, by its hour as it was KEPT)");
    KitePower x = new KitePower();
    x.wind(0, 5, 0, 20, 30);
    Due.judge(x, 0, 5, 1, 17);
    DUE.is("keep(0)", x.keep(0), 2);
    x.stand(0, 0);
    DUE.is("by low and high of hour 5", x.field(), 4000 - 1800);
    Due.windsAll(x, 5, 0, 0);
    Due.windsAll(x, 0, 60, 60);
    DUE.is("field()", x.field(), 2200);
    x.stand(20, 0);
    DUE.is("KEPT as it was", x.field(), 4400);
    DUE.is("fielded()", x.fielded(), 3);
  }

  private static void fieldedSince() {
    DUE.by("The set of the latest field(), as bits (0 ahead of any, or if a stand(), a kite() came since)");
    KitePower x = new KitePower();
    DUE.is("ahead of any", x.fielded(), 0);
    Due.keep(x, 0, 0, 1, 17);
    x.stand(0, 0);
    DUE.is("ahead of field()", x.fielded(), 0);
    x.field();
    DUE.is("fielded()", x.fielded(), 1);
    DUE.is("again", x.fielded(), 1);
    Due.keep(x, 0, 0, 0);
    x.keep(1);
    x.best(0);
    DUE.is("other calls leave it", x.fielded(), 1);
    x.stand(3, 0);
    DUE.is("a stand()", x.fielded(), 0);
    x.field();
    DUE.is("fielded()", x.fielded(), 1);
    Due.tape(x, "").kite();
    DUE.is("a kite()", x.fielded(), 0);
    DUE.is("field() of none", x.field(), 0);
    DUE.is("fielded()", x.fielded(), 0);
  }

  // ---- laws

  private static void lawRefused() {
    DUE.by("A LAW: how many there are; RANGE: hours (to not ahead of from), height 0 .. 9999; FULL / LAWS, "
        + "at most 10");
    KitePower x = new KitePower();
    Due.keep(x, 0, 119, 0);
    int[][] wrong = {{-1, 0, 0}, {LEAST, 0, 0}, {24, 24, 0}, {0, 24, 0}, {0, MOST, 0}, {1, 0, 0},
        {23, 22, 0}, {0, -1, 0}, {0, 23, -1}, {0, 23, 10000}, {0, 23, LEAST}, {0, 23, MOST}};
    for (int round = 0; round < 2; round++) {
      for (int[] w : wrong) {
        DUE.is("law(" + w[0] + ", " + w[1] + ", " + w[2] + ")", x.law(w[0], w[1], w[2]), RANGE);
      }
      DUE.is("none of them holds", x.breach(0, 0, 1, 5000), NONE);
      DUE.is("count(3)", x.count(3), 10 * round);
      for (int i = 1; i <= 10; i++) {
        DUE.is("law", x.law(0, 23, i % 2 == 0 ? 9999 : 120), round == 0 ? i : FULL);
      }
    }
    DUE.is("the eleventh does not hold", x.law(0, 23, 0), FULL);
    DUE.is("the eleventh does not hold", x.breach(0, 0, 1, 5000), NONE);
    Due.tape(x, "").kite();
    DUE.is("LAWS stay behind kite()", x.law(0, 0, 0), FULL);
  }

  private static void lawEdges() {
    DUE.by("from an hour to an hour (not round) HEIGHT is at most so much");
    int[][] laws = {{5, 7, 119}, {0, 0, 119}, {23, 23, 119}, {0, 23, 119}, {12, 12, 0}};
    for (int[] law : laws) {
      KitePower x = new KitePower();
      Due.keep(x, 0, 119, 0);
      x.law(law[0], law[1], law[2]);
      for (int hour = 0; hour < 24; hour++) {
        boolean holds = law[0] <= hour && hour <= law[1];
        DUE.is("at hour " + hour, x.breach(0, hour, 60, 60), holds ? 0 : NONE);
      }
    }
    KitePower x = new KitePower();
    Due.keep(x, 0, 119, 0);
    Due.keep(x, 1, 0, 0);
    x.law(0, 23, 9999);
    DUE.is("9999", x.breach(0, 0, 60, 5000), NONE);
    x.law(0, 23, 121);
    DUE.is("121", x.breach(0, 0, 60, 5000), NONE);
    x.law(0, 23, 120);
    DUE.is("120: just as high", x.breach(0, 0, 60, 5000), NONE);
    x.law(0, 23, 119);
    DUE.is("119", x.breach(0, 0, 60, 5000), 0);
    DUE.is("another LOOP", x.breach(1, 0, 60, 5000), NONE);
    x.law(0, 23, 5);
    DUE.is("5: just as high", x.breach(1, 0, 60, 5000), NONE);
    x.law(3, 3, 4);
    DUE.is("4", x.breach(1, 3, 60, 1), 0);
    x.law(3, 3, 9999);
    DUE.is("a later LAW that lets more", x.breach(1, 3, 60, 1), 0);
    KitePower low = Due.kite("high 6;unit 5;");
    Due.keep(low, 0, 0, 0);
    Due.keep(low, 1, 5 * (1 + 6 * 0), 0);
    low.law(0, 23, 0);
    DUE.is("HEIGHT 0 by 0", low.breach(0, 0, 1, 5000), NONE);
    DUE.is("HEIGHT 1 by 0", low.breach(1, 0, 1, 5000), 0);
  }

  private static void breachTicks() {
    DUE.by("the first tick ahead of which its STATE is higher than a LAW of that hour lets / for ticks "
        + "(1 .. 5000)");
    KitePower x = new KitePower();
    Due.keep(x, 0, 0, 1, 1, 17, 17);
    // HEIGHTS 5, 10, 15, 10
    x.law(2, 2, 14);
    int[][] all = {{2, 60, 1, NONE}, {2, 60, 2, NONE}, {2, 60, 3, 2}, {2, 60, 5000, 2},
        {1, 60, 60, NONE}, {1, 60, 62, NONE}, {1, 60, 63, 62}, {1, 1, 5000, NONE}, {2, 1, 5000, NONE},
        {0, 1, 3, 2}, {0, 1, 2, NONE}, {1, 2, 3, 2}, {1, 3, 5000, NONE}, {1, 4, 6, NONE}, {1, 4, 7, 6},
        {2, 2, 5000, NONE}, {2, 3, 3, 2}};
    for (int[] a : all) {
      DUE.is("breach(0, " + a[0] + ", " + a[1] + ", " + a[2] + ")", x.breach(0, a[0], a[1], a[2]), a[3]);
    }
  }

  private static void breachGoesRound() {
    DUE.by("BREACH of a KEPT LOOP flown from an hour on, so many ticks an hour (hours go round)");
    KitePower x = new KitePower();
    Due.keep(x, 0, 119, 0);
    int[] long100 = new int[100];
    long100[0] = 1;
    long100[99] = 2;
    Due.keep(x, 1, 0, long100);
    x.law(4, 4, 119);
    int[][] all = {{5, 1, 23, NONE}, {5, 1, 24, 23}, {5, 60, 1380, NONE}, {5, 60, 1381, 1380},
        {5, 60, 5000, 1380}, {4, 60, 1, 0}, {3, 60, 60, NONE}, {3, 60, 61, 60}, {23, 7, 35, NONE},
        {23, 7, 36, 35}, {0, 60, 5000, 240}};
    for (int[] a : all) {
      DUE.is("breach(0, " + a[0] + ", " + a[1] + ", " + a[2] + ")", x.breach(0, a[0], a[1], a[2]), a[3]);
    }
    x.law(9, 9, 5);
    DUE.is("the LOOP is low at its tick 100", x.breach(1, 9, 60, 1), NONE);
    DUE.is("and high at its tick 1", x.breach(1, 9, 60, 2), 1);
    DUE.is("from hour 8 on, 50 ticks an hour", x.breach(1, 8, 50, 5000), 50);
    // hour 9 has one tick of 24: tick 1, tick 25 ..; the LOOP is low at each tick of 100
    DUE.is("a tick an hour", x.breach(1, 8, 1, 5000), 1);
    DUE.is("a tick an hour", x.breach(1, 9, 1, 5000), 24);
    DUE.is("60 an hour, round the clock", x.breach(1, 10, 60, 5000), 1380);
    KitePower none = new KitePower();
    Due.keep(none, 0, 119, 0);
    DUE.is("no LAW", none.breach(0, 0, 1, 5000), NONE);
    none.law(11, 11, 0);
    DUE.is("4999 ticks of 60 an hour begin at each hour", none.breach(0, 12, 60, 5000), 1380);
    DUE.is("208 days of hours go by", none.breach(0, 12, 1, 5000), 23);
  }

  private static void breachRefused() {
    DUE.by("for ticks (1 .. 5000): the tick; NONE; RANGE; STATE");
    KitePower x = new KitePower();
    Due.keep(x, 0, 119, 0);
    x.law(0, 23, 0);
    int[][] all = {{-1, 0, 1, 1, RANGE}, {6, 0, 1, 1, RANGE}, {LEAST, 0, 1, 1, RANGE},
        {MOST, 0, 1, 1, RANGE}, {0, -1, 1, 1, RANGE}, {0, 24, 1, 1, RANGE}, {0, LEAST, 1, 1, RANGE},
        {0, MOST, 1, 1, RANGE}, {0, 0, 0, 1, RANGE}, {0, 0, -1, 1, RANGE}, {0, 0, 61, 1, RANGE},
        {0, 0, LEAST, 1, RANGE}, {0, 0, MOST, 1, RANGE}, {0, 0, 1, 0, RANGE}, {0, 0, 1, -1, RANGE},
        {0, 0, 1, 5001, RANGE}, {0, 0, 1, LEAST, RANGE}, {0, 0, 1, MOST, RANGE}, {5, 24, 1, 1, RANGE},
        {5, 0, 0, 1, RANGE}, {5, 0, 1, 5001, RANGE}, {1, 0, 1, 1, STATE}, {5, 0, 1, 1, STATE},
        {0, 0, 1, 1, 0}, {0, 23, 60, 5000, 0}};
    for (int[] a : all) {
      DUE.is("breach(" + a[0] + ", " + a[1] + ", " + a[2] + ", " + a[3] + ")",
          x.breach(a[0], a[1], a[2], a[3]), a[4]);
    }
    Due.tape(x, "").kite();
    DUE.is("behind kite()", x.breach(0, 0, 1, 1), STATE);
  }
}
