/** Each sentence of "HIDDEN" and of promises 34 to 40 that names an edge, by its own words. */
public final class EdgesOfReadingsTest {
  private static final Due DUE = new Due("EdgesOfReadingsTest");
  private static final int NONE = KitePower.NONE;
  private static final int RANGE = KitePower.RANGE;
  private static final int FULL = KitePower.FULL;
  private static final int LEAST = Integer.MIN_VALUE;
  private static final int MOST = Integer.MAX_VALUE;
  private static final int ALL = (1 << 21) - 1;

  public static void main(String[] args) {
    hiddenRange();
    onlyPulls();
    shareCuts();
    pullsRange();
    readRange();
    readFull();
    readSteps();
    refusedSteps();
    rightRange();
    rightFull();
    rightCounts();
    fitBits();
    fitEdges();
    fitKnown();
    fitRighted();
    fitWinds();
    fitRange();
    nextParts();
    nextNone();
    nextKnown();
    nextRange();
    kiteForgets();
    counts();
    DUE.end();
  }

  // ---- hidden

  private static void hiddenRange() {
    DUE.by("HIDDEN is told: what it was (10 at first); RANGE / a share 0 .. 20 (tenths)");
    KitePower x = new KitePower();
    int[][] all = {{-1, RANGE}, {21, RANGE}, {LEAST, RANGE}, {MOST, RANGE}, {0, 10}, {20, 0},
        {21, RANGE}, {-1, RANGE}, {7, 20}};
    for (int[] a : all) {
      DUE.is("hidden(" + a[0] + ")", x.hidden(a[0]), a[1]);
    }
    DUE.is("of 7 tenths", x.pulls(0, 0, 0), 490);
    x.hidden(30);
    DUE.is("of 7 tenths still", x.pulls(0, 0, 0), 490);
    Due.tape(x, "").kite();
    DUE.is("it stays behind kite()", x.hidden(7), 7);
  }

  private static void onlyPulls() {
    DUE.by("(No other call but pulls() asks it.)");
    for (int share : new int[] {0, 1, 10, 20}) {
      KitePower x = new KitePower();
      x.hidden(share);
      DUE.is("pulls(0, 0, 0)", x.pulls(0, 0, 0), 10 * share * share);
      DUE.is("pull(0, 0, 10)", x.pull(0, 0, 10), 1000);
      DUE.is("safe(0, 0, 0)", x.safe(0, 0, 0), 1);
      DUE.is("gives(0, 1, 0)", x.gives(0, 1, 0), 1000);
      DUE.is("winds(0, 0, 0)", x.winds(0, 0, 0), 1010);
      DUE.is("best(0)", x.best(0), 4);
      DUE.is("looped(0)", x.looped(0), 2600);
      DUE.is("judge(0, 0)", Due.judge(x, 0, 0, 1, 17), 2);
      DUE.is("judged(3)", x.judged(3), 1000);
      DUE.is("fly()", x.fly(0, 0, 9, 1, false), 9);
      DUE.is("held(0)", x.held(0), 120);
      DUE.is("plan()", x.plan(0, 0, 1, 0, 0, 0), 650);
      DUE.is("next(0, 0)", x.next(0, 0), 0);
      x.read(0, 0, 0, 0, 1000, 1000);
      DUE.is("fit(0)", x.fit(0), 1 << 10);
    }
  }

  private static void shareCuts() {
    DUE.by("winds are really that share of what is told: w times it over 10 (cut)");
    int[][] all = {{1, 9, 0}, {1, 10, 1}, {1, 19, 1}, {1, 20, 2}, {9, 11, 9}, {9, 12, 10}, {3, 3, 0},
        {3, 4, 1}, {60, 20, 120}, {60, 1, 6}, {7, 7, 4}, {0, 20, 0}, {19, 1, 1}, {20, 1, 2}, {13, 0, 0}};
    for (int[] a : all) {
      KitePower x = Due.kite("lift 1;");
      x.wind(0, 3, 0, a[0], 60);
      x.hidden(a[1]);
      DUE.is(a[1] + " tenths of " + a[0], x.pulls(0, 0, 3), a[2] * a[2]);
    }
    KitePower most = Due.kite("lift 99;cross 400;");
    most.wind(0, 0, 0, 60, 60);
    most.hidden(20);
    DUE.is("the greatest that can be", most.pulls(0, 3, 0), 5702400);
  }

  private static void pullsRange() {
    DUE.by("PULL in a STATE by an ACT by the low wind of an hour, that share of it; RANGE.");
    KitePower x = new KitePower();
    x.wind(0, 23, 3, 6, 60);
    int[][] all = {{119, 29, 23, 72}, {119, 0, 23, 360}, {0, 3, 23, 1500}, {0, 12, 0, 1000},
        {-1, 0, 0, RANGE}, {120, 0, 0, RANGE}, {LEAST, 0, 0, RANGE}, {MOST, 0, 0, RANGE},
        {0, -1, 0, RANGE}, {0, 30, 0, RANGE}, {0, LEAST, 0, RANGE}, {0, MOST, 0, RANGE},
        {0, 0, -1, RANGE}, {0, 0, 24, RANGE}, {0, 0, LEAST, RANGE}, {0, 0, MOST, RANGE}};
    for (int[] a : all) {
      DUE.is("pulls(" + a[0] + ", " + a[1] + ", " + a[2] + ")", x.pulls(a[0], a[1], a[2]), a[3]);
    }
  }

  // ---- pulls read

  private static void readRange() {
    DUE.by("A PULL was READ: low .. high (0 .. 99999999), told at a STEP: its number; RANGE");
    KitePower x = new KitePower();
    int[][] wrong = {{-1, 0, 0, 0, 0, 0}, {1000, 0, 0, 0, 0, 0}, {LEAST, 0, 0, 0, 0, 0},
        {MOST, 0, 0, 0, 0, 0}, {0, -1, 0, 0, 0, 0}, {0, 120, 0, 0, 0, 0}, {0, LEAST, 0, 0, 0, 0},
        {0, MOST, 0, 0, 0, 0}, {0, 0, -1, 0, 0, 0}, {0, 0, 30, 0, 0, 0}, {0, 0, LEAST, 0, 0, 0},
        {0, 0, MOST, 0, 0, 0}, {0, 0, 0, -1, 0, 0}, {0, 0, 0, 24, 0, 0}, {0, 0, 0, LEAST, 0, 0},
        {0, 0, 0, MOST, 0, 0}, {0, 0, 0, 0, -1, 0}, {0, 0, 0, 0, LEAST, 0}, {0, 0, 0, 0, 1, 0},
        {0, 0, 0, 0, 99999999, 99999998}, {0, 0, 0, 0, 0, 100000000}, {0, 0, 0, 0, 0, MOST},
        {0, 0, 0, 0, 100000000, 100000000}, {0, 0, 0, 0, -2, -1}};
    for (int[] w : wrong) {
      DUE.is("read", x.read(w[0], w[1], w[2], w[3], w[4], w[5]), RANGE);
    }
    DUE.is("count(4)", x.count(4), 0);
    DUE.is("fit(999)", x.fit(999), ALL);
    int[][] right = {{0, 0, 0, 0, 0, 0}, {0, 119, 29, 23, 99999999, 99999999}, {0, 0, 3, 0, 0, 99999999},
        {999, 0, 2, 0, 5, 5}};
    for (int i = 0; i < right.length; i++) {
      int[] r = right[i];
      DUE.is("read", x.read(r[0], r[1], r[2], r[3], r[4], r[5]), i);
    }
  }

  private static void readFull() {
    DUE.by("READ: at most 30, numbered from 0 / RANGE; FULL");
    KitePower x = new KitePower();
    for (int i = 0; i < 30; i++) {
      DUE.is("read", x.read(3, 0, 0, 0, 0, 99999999), i);
    }
    DUE.is("the 31st", x.read(3, 0, 0, 0, 0, 0), FULL);
    DUE.is("the 31st, later", x.read(9, 0, 0, 0, 0, 0), FULL);
    DUE.is("the 31st, falling", x.read(2, 0, 0, 0, 0, 0), RANGE);
    DUE.is("the 31st, no STATE", x.read(3, 120, 0, 0, 0, 0), RANGE);
    DUE.is("count(4)", x.count(4), 30);
    DUE.is("none of them is in FIT", x.fit(999), ALL);
    DUE.is("FULL tells no STEP", x.right(3, 29, 0, 99999999), 1);
    DUE.is("the 31st", x.right(3, 30, 0, 0), RANGE);
  }

  private static void readSteps() {
    DUE.by("told at a STEP of telling (its own row: 0 .. 999, never falling)");
    KitePower x = new KitePower();
    x.wind(500, 0, 0, 10, 10);
    DUE.is("winds have another row", x.read(0, 0, 0, 0, 0, 99999999), 0);
    DUE.is("step 0 again", x.read(0, 0, 0, 0, 0, 99999999), 1);
    DUE.is("step 4", x.read(4, 0, 0, 0, 0, 99999999), 2);
    DUE.is("step 3", x.read(3, 0, 0, 0, 0, 99999999), RANGE);
    DUE.is("step 3, put RIGHT", x.right(3, 0, 0, 99999999), RANGE);
    DUE.is("step 4, put RIGHT", x.right(4, 0, 0, 99999999), 1);
    DUE.is("step 7, put RIGHT", x.right(7, 0, 0, 99999999), 2);
    DUE.is("step 6, READ", x.read(6, 0, 0, 0, 0, 99999999), RANGE);
    DUE.is("step 7, READ", x.read(7, 0, 0, 0, 0, 99999999), 3);
    DUE.is("step 999", x.read(999, 0, 0, 0, 0, 99999999), 4);
    DUE.is("step 1000", x.read(1000, 0, 0, 0, 0, 99999999), RANGE);
    DUE.is("step 998", x.right(998, 0, 0, 99999999), RANGE);
    DUE.is("step 999", x.right(999, 0, 0, 99999999), 3);
    DUE.is("step 1000", x.right(1000, 0, 0, 99999999), RANGE);
    DUE.is("winds are at 500", x.wind(499, 0, 0, 10, 10), RANGE);
    DUE.is("winds are at 500", x.wind(500, 0, 0, 10, 10), 2);
  }

  private static void refusedSteps() {
    DUE.by("never falling: one that is refused tells no STEP");
    KitePower x = new KitePower();
    x.read(2, 0, 0, 0, 0, 99999999);
    DUE.is("step 9, no hour", x.read(9, 0, 0, 24, 0, 0), RANGE);
    DUE.is("step 9, low above high", x.read(9, 0, 0, 0, 1, 0), RANGE);
    DUE.is("step 9, none such", x.right(9, 1, 0, 0), RANGE);
    DUE.is("step 9, low above high", x.right(9, 0, 1, 0), RANGE);
    DUE.is("a wind at step 9", x.wind(9, 0, 0, 10, 10), 1);
    DUE.is("step 2", x.read(2, 0, 0, 0, 0, 99999999), 1);
    DUE.is("step 2", x.right(2, 0, 0, 99999999), 1);
  }

  private static void rightRange() {
    DUE.by("One that was READ is put RIGHT at a STEP: how often it was; RANGE");
    KitePower x = new KitePower();
    DUE.is("none was READ", x.right(0, 0, 0, 0), RANGE);
    DUE.is("none was READ", x.right(0, -1, 0, 0), RANGE);
    x.read(0, 0, 0, 0, 1000, 1000);
    x.read(0, 0, 0, 0, 0, 99999999);
    int[][] wrong = {{-1, 0, 0, 0}, {1000, 0, 0, 0}, {LEAST, 0, 0, 0}, {MOST, 0, 0, 0}, {0, -1, 0, 0},
        {0, 2, 0, 0}, {0, 29, 0, 0}, {0, 30, 0, 0}, {0, LEAST, 0, 0}, {0, MOST, 0, 0}, {0, 0, -1, 0},
        {0, 0, 1, 0}, {0, 0, 0, 100000000}, {0, 0, LEAST, MOST}, {0, 0, 0, MOST}};
    for (int[] w : wrong) {
      DUE.is("right", x.right(w[0], w[1], w[2], w[3]), RANGE);
    }
    DUE.is("count(5)", x.count(5), 0);
    DUE.is("fit(999)", x.fit(999), 1 << 10);
    DUE.is("the last one", x.right(0, 1, 99999999, 99999999), 1);
    DUE.is("fit(999)", x.fit(999), 0);
  }

  private static void rightFull() {
    DUE.by("FULL: the 21st in all");
    KitePower x = new KitePower();
    for (int i = 0; i < 30; i++) {
      x.read(0, 0, 0, 0, 0, 99999999);
    }
    for (int i = 0; i < 20; i++) {
      DUE.is("right", x.right(i, i, 0, 99999999), 1);
    }
    DUE.is("the 21st, of another", x.right(19, 29, 0, 0), FULL);
    DUE.is("the 21st, of one that was", x.right(19, 0, 0, 0), FULL);
    DUE.is("the 21st, falling", x.right(18, 0, 0, 0), RANGE);
    DUE.is("the 21st, none such", x.right(19, 30, 0, 0), RANGE);
    DUE.is("count(5)", x.count(5), 20);
    DUE.is("fit(999)", x.fit(999), ALL);
    KitePower one = new KitePower();
    one.read(0, 0, 0, 0, 0, 0);
    for (int i = 1; i <= 20; i++) {
      DUE.is("right", one.right(0, 0, 0, i), i);
    }
    DUE.is("the 21st", one.right(0, 0, 0, 99999999), FULL);
    DUE.is("FULL tells no STEP", one.right(9, 0, 0, 99999999), FULL);
    DUE.is("FULL tells no STEP", one.read(0, 0, 0, 0, 0, 99999999), 1);
    DUE.is("the 20th holds: up to 20", one.fit(999), 0b11);
  }

  private static void rightCounts() {
    DUE.by("how often it was");
    KitePower x = new KitePower();
    for (int i = 0; i < 3; i++) {
      x.read(0, 0, 0, 0, 0, 99999999);
    }
    int[][] all = {{1, 1}, {1, 2}, {0, 1}, {2, 1}, {1, 3}, {0, 2}, {0, 3}, {1, 4}};
    for (int[] a : all) {
      DUE.is("right of " + a[0], x.right(0, a[0], 0, 0), a[1]);
    }
    DUE.is("count(5)", x.count(5), 8);
  }

  // ---- fit: by a wind of 10 the PULL of ACT 0 is 10 times the share times the share

  private static void fitBits() {
    DUE.by("the shares with which all READ (as known then) would be so, as bits");
    for (int share = 0; share <= 20; share++) {
      KitePower x = new KitePower();
      DUE.is("nothing was READ", x.fit(0), ALL);
      x.read(0, 0, 0, 0, 10 * share * share, 10 * share * share);
      DUE.is("share " + share, x.fit(0), 1 << share);
      x.read(0, 119, 23, 23, 3 * share * share, 3 * share * share);
      DUE.is("as another tells too", x.fit(0), 1 << share);
      x.read(0, 0, 15, 0, 99999999, 99999999);
      DUE.is("as another tells not", x.fit(0), 0);
    }
    KitePower calm = new KitePower();
    Due.windsAll(calm, 0, 0, 0);
    calm.read(0, 0, 0, 0, 0, 0);
    DUE.is("no wind: all", calm.fit(0), ALL);
    calm.read(0, 0, 0, 0, 1, 1);
    DUE.is("no wind: none", calm.fit(0), 0);
    KitePower own = Due.kite("window 100 50;lift 10 2 7;");
    own.wind(0, 4, 1, 20, 30);
    own.read(0, 2 + 5 * (3 + 4 * 1), 33, 4, 4 * 4 * 7 * 75 / 100, 4 * 4 * 7 * 75 / 100);
    DUE.is("STATE, ACT and hour of its own: 2 tenths of 20", own.fit(0), 0b100);
  }

  private static void fitEdges() {
    DUE.by("PULL was low .. high");
    int[][] all = {{90, 250, 0b111000}, {91, 249, 0b10000}, {90, 90, 0b1000}, {91, 159, 0}, {0, 0, 1},
        {0, 10, 0b11}, {1, 9, 0}, {4000, 4000, 1 << 20}, {4001, 99999999, 0},
        {3999, 99999999, 1 << 20}, {0, 99999999, ALL}, {0, 3999, ALL >> 1}};
    for (int[] a : all) {
      KitePower x = new KitePower();
      x.read(0, 0, 0, 0, a[0], a[1]);
      DUE.is("READ as " + a[0] + " .. " + a[1], x.fit(0), a[2]);
    }
  }

  private static void fitKnown() {
    DUE.by("FIT as known at a STEP");
    KitePower x = new KitePower();
    x.read(0, 0, 0, 0, 40, 4000);
    x.read(5, 0, 0, 0, 90, 4000);
    x.read(5, 0, 0, 0, 0, 250);
    x.read(999, 0, 0, 0, 160, 160);
    int[][] all = {{0, ALL & -4}, {4, ALL & -4}, {5, 0b111000}, {6, 0b111000}, {998, 0b111000},
        {999, 0b10000}};
    for (int[] a : all) {
      DUE.is("fit(" + a[0] + ")", x.fit(a[0]), a[1]);
    }
    KitePower late = new KitePower();
    late.read(1, 0, 0, 0, 0, 0);
    DUE.is("ahead of all", late.fit(0), ALL);
    DUE.is("fit(1)", late.fit(1), 1);
  }

  private static void fitRighted() {
    DUE.by("told at a STEP of telling, perhaps put RIGHT later");
    KitePower x = new KitePower();
    x.read(2, 0, 0, 0, 90, 90);
    x.right(2, 0, 160, 160);
    x.right(4, 0, 250, 250);
    x.right(6, 0, 360, 360);
    x.right(6, 0, 490, 490);
    x.right(999, 0, 0, 0);
    int[][] all = {{1, ALL}, {2, 1 << 4}, {3, 1 << 4}, {4, 1 << 5}, {5, 1 << 5}, {6, 1 << 7},
        {998, 1 << 7}, {999, 1}};
    for (int[] a : all) {
      DUE.is("fit(" + a[0] + ")", x.fit(a[0]), a[1]);
    }
    KitePower two = new KitePower();
    two.read(0, 0, 0, 0, 0, 4000);
    two.read(0, 0, 0, 0, 0, 4000);
    two.right(1, 1, 0, 90);
    DUE.is("the other one is as it was", two.fit(1), 0b1111);
    two.right(2, 0, 40, 4000);
    DUE.is("both", two.fit(2), 0b1100);
    DUE.is("as known at 1", two.fit(1), 0b1111);
    DUE.is("as known at 0", two.fit(0), ALL);
  }

  private static void fitWinds() {
    DUE.by("by the low wind of that hour as told now");
    KitePower x = new KitePower();
    x.read(0, 0, 0, 0, 1000, 1000);
    DUE.is("by 10", x.fit(0), 1 << 10);
    x.wind(7, 0, 0, 20, 60);
    DUE.is("by 20, though that was told later", x.fit(0), 1 << 5);
    x.wind(7, 1, 0, 5, 60);
    x.wind(7, 0, 1, 5, 60);
    DUE.is("another hour, another BAND", x.fit(0), 1 << 5);
    x.wind(7, 0, 0, 5, 60);
    DUE.is("by 5", x.fit(0), 1 << 20);
    x.wind(7, 0, 0, 4, 60);
    DUE.is("by 4: 8 at most", x.fit(0), 0);
  }

  private static void fitRange() {
    DUE.by("FIT as known at a STEP, as bits; RANGE.");
    KitePower x = new KitePower();
    int[][] all = {{0, ALL}, {999, ALL}, {-1, RANGE}, {1000, RANGE}, {LEAST, RANGE}, {MOST, RANGE}};
    for (int[] a : all) {
      DUE.is("fit(" + a[0] + ")", x.fit(a[0]), a[1]);
    }
  }

  // ---- next

  private static void nextParts() {
    DUE.by("that for which the greatest heap of FIT (all that is known) with one PULL is least; then the "
        + "least");
    DUE.is("all part all", new KitePower().next(0, 0), 0);
    DUE.is("in the last STATE", new KitePower().next(119, 23), 0);
    DUE.is("but SLANT 2 parts them", Due.kite("lift 0 0 5;").next(0, 0), 30);
    DUE.is("SLANTS 1 and 2 part them", Due.kite("lift 0 5 5;").next(0, 0), 15);
    KitePower heaps = Due.kite("lift 1 99;");
    heaps.wind(0, 0, 0, 3, 3);
    // winds 0 0 0 0 1 1 1 2 2 2 3 ..: heaps of 4 by each
    DUE.is("as good", heaps.next(0, 0), 0);
    KitePower cut = Due.kite("lift 1 2 99;window 10;");
    cut.wind(0, 0, 0, 3, 3);
    // winds 0 to 6, their squares over 10 cut: 0 0 0 0 1 2 3; by 2: 0 0 0 1 3 5 7; by 99 all are parted
    DUE.is("a heap of 13 by SLANT 0, 10 by 1, 4 by 2", cut.next(0, 0), 30);
    cut.read(0, 0, 30, 0, 9, 9999);
    // shares 4 .. 20 are left: heaps of 9, 6, 3
    DUE.is("of what is left", cut.next(0, 0), 30);
    cut.right(0, 0, 150, 9999);
    // winds 4, 5, 6 are left: parted by all in heaps of 4 and 3
    DUE.is("the least of those that part as well", cut.next(0, 0), 0);
    KitePower back = Due.kite("lift 2 99 1;window 10;");
    back.wind(0, 0, 0, 3, 3);
    DUE.is("a heap of 10 by SLANT 0, 4 by 1, 13 by 2", back.next(0, 0), 15);
    KitePower first = Due.kite("lift 99 2 1;window 10;");
    first.wind(0, 0, 0, 3, 3);
    DUE.is("a heap of 4 by SLANT 0, 10 by 1, 13 by 2", first.next(0, 0), 0);
  }

  private static void nextNone() {
    DUE.by("None, if none parts them.");
    KitePower x = new KitePower();
    Due.windsAll(x, 1, 0, 0);
    DUE.is("no wind", x.next(0, 1), NONE);
    DUE.is("another hour", x.next(0, 2), 0);
    DUE.is("no lift", Due.kite("lift 0 0 0;").next(0, 0), NONE);
    KitePower blind = Due.kite("window 0 100;");
    DUE.is("no window", blind.next(0, 0), NONE);
    DUE.is("a window", blind.next(1, 0), 0);
    x.read(0, 0, 0, 0, 1000, 1210);
    DUE.is("two are left", x.next(0, 0), 0);
    x.right(0, 0, 1000, 1000);
    DUE.is("one is left", x.next(0, 0), NONE);
    x.right(0, 0, 1, 1);
    DUE.is("none is left", x.next(0, 0), NONE);
    KitePower two = new KitePower();
    two.wind(0, 0, 0, 1, 1);
    two.read(0, 0, 0, 0, 10, 10);
    DUE.is("10 that none parts: 1 by all", two.next(0, 0), NONE);
    DUE.is("10 that another hour parts", two.next(0, 1), 0);
    DUE.is("10 that another BAND parts", two.next(119, 0), 0);
  }

  private static void nextKnown() {
    DUE.by("FIT (all that is known)");
    KitePower x = new KitePower();
    x.read(0, 0, 0, 0, 1000, 1210);
    x.read(999, 0, 0, 0, 1210, 1210);
    DUE.is("two at step 0", x.fit(0), 0b11 << 10);
    DUE.is("one at step 999", x.next(0, 0), NONE);
    x.right(999, 1, 0, 99999999);
    DUE.is("two again", x.next(0, 0), 0);
  }

  private static void nextRange() {
    DUE.by("NEXT: the ACT; NONE; RANGE.");
    KitePower x = new KitePower();
    int[][] wrong = {{-1, 0}, {120, 0}, {LEAST, 0}, {MOST, 0}, {0, -1}, {0, 24}, {0, LEAST}, {0, MOST}};
    for (int[] w : wrong) {
      DUE.is("next(" + w[0] + ", " + w[1] + ")", x.next(w[0], w[1]), RANGE);
    }
  }

  // ---- kite and count

  private static void kiteForgets() {
    DUE.by("READ are none then (the latest STEP of telling of READ is 0)");
    KitePower x = new KitePower();
    for (int i = 0; i < 30; i++) {
      x.read(999, 0, 0, 0, 0, 0);
    }
    for (int i = 0; i < 20; i++) {
      x.right(999, i, 0, 0);
    }
    Due.tape(x, "rope 9;").kite();
    DUE.is("a FAULT: they stay", x.count(4), 30);
    DUE.is("a FAULT: they stay", x.fit(999), 1);
    DUE.is("a FAULT: the STEP stays", x.right(998, 0, 0, 0), RANGE);
    Due.tape(x, "").kite();
    DUE.is("count(4)", x.count(4), 0);
    DUE.is("fit(999)", x.fit(999), ALL);
    DUE.is("none to put RIGHT", x.right(0, 0, 0, 0), RANGE);
    DUE.is("step -1", x.read(-1, 0, 0, 0, 40, 99999999), RANGE);
    DUE.is("step 0", x.read(0, 0, 0, 0, 40, 99999999), 0);
    DUE.is("put RIGHT by none of before", x.fit(999), ALL & -4);
    DUE.is("how often it was", x.right(0, 0, 90, 99999999), 1);
    DUE.is("fit(999)", x.fit(999), ALL & -8);
    for (int i = 1; i < 30; i++) {
      DUE.is("room for 30 again", x.read(0, 0, 0, 0, 0, 99999999), i);
    }
    DUE.is("the 31st", x.read(0, 0, 0, 0, 0, 0), FULL);
  }

  private static void counts() {
    DUE.by("10 + i: ACTS of slot i (0: none is KEPT). NONE for others.");
    KitePower x = new KitePower();
    int[] first = {120, 0, 0, 0, 0, 0, 0, 0, NONE, NONE, 0, 0, 0, 0, 0, 0, NONE, NONE};
    for (int what = 0; what < first.length; what++) {
      DUE.is("count(" + what + ")", x.count(what), first[what]);
    }
    for (int slot = 0; slot < 6; slot++) {
      Due.keep(x, slot, 0, new int[slot + 1]);
    }
    x.wind(0, 9, 0, 1, 1);
    x.wind(0, 9, 24, 1, 1);
    x.wind(0, 9, 0, 1, 1);
    x.stand(0, 0);
    x.stand(41, 0);
    x.law(0, 0, 0);
    x.law(1, 0, 0);
    x.law(0, 0, 0);
    x.law(0, 0, 0);
    for (int i = 0; i < 4; i++) {
      x.read(0, 0, 0, 0, 0, 0);
    }
    for (int i = 0; i < 5; i++) {
      x.right(0, 3, 0, 0);
    }
    x.tired(1000000);
    Due.tape(x, "1234567");
    int[] then = {120, 2, 1, 3, 4, 5, 1000000, 7, NONE, NONE, 1, 2, 3, 4, 5, 6, NONE, NONE};
    for (int what = 0; what < then.length; what++) {
      DUE.is("count(" + what + ")", x.count(what), then[what]);
    }
    for (int what : new int[] {-1, -2, 100, LEAST, MOST}) {
      DUE.is("count(" + what + ")", x.count(what), NONE);
    }
    x.end(0);
    Due.tape(x, "across 2;high 2;rope 2;").kite();
    int[] last = {8, 2, 0, 3, 0, 0, 1000000, 0, NONE, NONE, 0, 0, 0, 0, 0, 0, NONE};
    for (int what = 0; what < last.length; what++) {
      DUE.is("count(" + what + ")", x.count(what), last[what]);
    }
  }
}
