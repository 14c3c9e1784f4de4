/** Promises 8 to 14: states, acts, winds, pulls, what is safe and what is given. */
public final class StatesTest {
  private static final Due DUE = new Due("StatesTest");
  private static final int RANGE = KitePower.RANGE;
  private static final int NONE = KitePower.NONE;

  public static void main(String[] args) {
    states();
    leads();
    winds();
    pulls();
    safe();
    gives();
    DUE.end();
  }

  /** 18 states: column and 3 times (row and 2 times rope). */
  private static KitePower kite() {
    return Due.kite("across 3;high 2;rope 3;unit 50;lift 10 2 7;window 33 80;cross 155;reel 37;"
        + "loss 11;mark 5000;weight 200;");
  }

  private static void state(KitePower x, int s, int... what) {
    for (int i = 0; i < what.length; i++) {
      DUE.is(8, "state(" + s + ", " + i + ")", x.state(s, i), what[i]);
    }
  }

  private static void states() {
    KitePower x = kite();
    state(x, 0, 0, 0, 0, 25, 0);
    state(x, 4, 1, 1, 0, 50, 1);
    state(x, 14, 2, 0, 2, 75, 1);
    state(x, 17, 2, 1, 2, 150, 3);
    DUE.is(8, "state(18, 0)", x.state(18, 0), NONE);
    DUE.is(8, "state(-1, 0)", x.state(-1, 0), NONE);
    DUE.is(8, "state(0, 5)", x.state(0, 5), NONE);
    DUE.is(8, "state(0, -1)", x.state(0, -1), NONE);
    KitePower large = Due.kite("across 6;high 6;rope 8;unit 50;");
    state(large, 287, 5, 5, 7, 400, 4);
    DUE.is(8, "state(288, 0)", large.state(288, 0), NONE);
    KitePower cut = Due.kite("high 3;unit 5;");
    state(cut, 0, 0, 0, 0, 1, 0);
    state(cut, 5, 0, 1, 0, 3, 0);
    KitePower bands = Due.kite("across 2;high 2;rope 5;unit 40;");
    state(bands, 2, 0, 1, 0, 40, 1);
    state(bands, 14, 0, 1, 3, 160, 4);
    state(bands, 18, 0, 1, 4, 200, 4);
  }

  private static void leads() {
    KitePower x = kite();
    int[][] all = {{0, 0, 0}, {0, 1, 6}, {0, 2, NONE}, {0, 3, NONE}, {0, 6, 1}, {0, 9, 3},
        {0, 12, NONE}, {0, 10, 9}, {0, 7, 7}, {0, 5, NONE}, {0, 40, 9}, {17, 6, NONE}, {17, 3, 16},
        {17, 9, NONE}, {17, 12, 14}, {17, 1, NONE}, {17, 2, 11}, {17, 14, 8}, {17, 5, 10},
        {17, 44, 8}, {7, 3, 6}, {7, 8, 2}, {0, 45, RANGE}, {0, -1, RANGE}, {-1, 0, RANGE},
        {18, 0, RANGE}};
    for (int[] a : all) {
      DUE.is(9, "leads(" + a[0] + ", " + a[1] + ")", x.leads(a[0], a[1]), a[2]);
    }
  }

  private static void winds() {
    KitePower x = new KitePower();
    DUE.is(10, "wind", x.wind(5, 3, 2, 8, 13), 1);
    DUE.is(11, "winds(3, 2, 4)", x.winds(3, 2, 4), 1010);
    DUE.is(11, "winds(3, 2, 5)", x.winds(3, 2, 5), 813);
    DUE.is(10, "falling", x.wind(4, 3, 2, 1, 1), RANGE);
    DUE.is(10, "step 1000", x.wind(1000, 3, 2, 1, 1), RANGE);
    DUE.is(10, "hour -1", x.wind(5, -1, 2, 1, 1), RANGE);
    DUE.is(10, "hour 24", x.wind(5, 24, 2, 1, 1), RANGE);
    DUE.is(10, "band -1", x.wind(5, 3, -1, 1, 1), RANGE);
    DUE.is(10, "band 5", x.wind(5, 3, 5, 1, 1), RANGE);
    DUE.is(10, "low -1", x.wind(5, 3, 2, -1, 1), RANGE);
    DUE.is(10, "high 61", x.wind(5, 3, 2, 1, 61), RANGE);
    DUE.is(10, "low above high", x.wind(5, 3, 2, 2, 1), RANGE);
    DUE.is(10, "the same step", x.wind(5, 3, 2, 0, 60), 2);
    DUE.is(11, "the latest of a step", x.winds(3, 2, 5), 60);
    DUE.is(11, "another hour", x.winds(2, 2, 5), 1010);
    DUE.is(11, "another band", x.winds(3, 1, 5), 1010);
    DUE.is(11, "hour -1", x.winds(-1, 0, 0), RANGE);
    DUE.is(11, "hour 24", x.winds(24, 0, 0), RANGE);
    DUE.is(11, "band -1", x.winds(0, -1, 0), RANGE);
    DUE.is(11, "band 5", x.winds(0, 5, 0), RANGE);
    DUE.is(11, "step -1", x.winds(0, 0, -1), RANGE);
    DUE.is(11, "step 1000", x.winds(0, 0, 1000), RANGE);
    for (int i = 3; i <= 200; i++) {
      DUE.is(10, "wind", x.wind(999, i % 24, i % 5, 7, 9), i);
    }
    DUE.is(10, "the 201st", x.wind(999, 0, 0, 7, 9), KitePower.FULL);
    DUE.is(10, "the 201st, falling", x.wind(998, 0, 0, 7, 9), RANGE);
    DUE.is(40, "count(1)", x.count(1), 200);
    DUE.is(11, "winds(3, 2, 998)", x.winds(3, 2, 998), 60);
    DUE.is(11, "winds(3, 2, 999)", x.winds(3, 2, 999), 709);
    KitePower first = new KitePower();
    DUE.is(10, "step -1", first.wind(-1, 0, 0, 1, 1), RANGE);
  }

  private static void pulls() {
    KitePower x = kite();
    int[][] all = {{0, 0, 13, 557}, {0, 6, 13, 863}, {0, 3, 13, 863}, {0, 9, 13, 557},
        {0, 12, 13, 557}, {2, 0, 13, 1352}, {2, 33, 13, 1466}, {2, 30, 13, 946}, {2, 15, 13, 270},
        {1, 0, 13, 1352}, {0, 0, 0, 0}, {2, 0, 60, 28800}, {2, 8, 60, 44640}, {0, 0, 61, RANGE},
        {0, 0, -1, RANGE}, {18, 0, 1, RANGE}, {-1, 0, 1, RANGE}, {0, 45, 1, RANGE},
        {0, -1, 1, RANGE}};
    for (int[] a : all) {
      DUE.is(12, "pull(" + a[0] + ", " + a[1] + ", " + a[2] + ")", x.pull(a[0], a[1], a[2]), a[3]);
    }
    KitePower most = Due.kite("lift 99;cross 400;reel 400;loss 9999;");
    DUE.is(12, "the greatest", most.pull(0, 3, 60), 1425600);
    most.wind(0, 0, 0, 60, 60);
    DUE.is(14, "the dearest", most.gives(0, 5, 0), -5712399);
  }

  private static void safe() {
    KitePower x = kite();
    x.wind(5, 3, 0, 8, 13);
    x.wind(5, 4, 0, 7, 13);
    DUE.is(13, "safe(0, 0, 3)", x.safe(0, 0, 3), 1);
    DUE.is(13, "too little by low", x.safe(0, 0, 4), 0);
    DUE.is(13, "more across", x.safe(0, 6, 4), 1);
    DUE.is(13, "can't be done", x.safe(0, 3, 4), 0);
    DUE.is(13, "can't be drawn in", x.safe(0, 8, 4), 0);
    DUE.is(13, "safe(18, 0, 0)", x.safe(18, 0, 0), RANGE);
    DUE.is(13, "safe(0, 45, 0)", x.safe(0, 45, 0), RANGE);
    DUE.is(13, "safe(0, 0, 24)", x.safe(0, 0, 24), RANGE);
    DUE.is(13, "safe(0, 0, -1)", x.safe(0, 0, -1), RANGE);
    DUE.is(13, "at both edges", Due.kite("weight 1000;mark 1000;").safe(0, 0, 0), 1);
    DUE.is(13, "below weight", Due.kite("weight 1001;").safe(0, 0, 0), 0);
    DUE.is(13, "above mark", Due.kite("mark 999;").safe(0, 0, 0), 0);
    KitePower span = Due.kite("weight 1000;mark 1440;");
    span.wind(0, 0, 0, 10, 12);
    span.wind(0, 1, 0, 9, 10);
    span.wind(0, 2, 0, 10, 13);
    DUE.is(13, "all of a span", span.safe(0, 0, 0), 1);
    DUE.is(13, "low too low", span.safe(0, 0, 1), 0);
    DUE.is(13, "high too high", span.safe(0, 0, 2), 0);
    span.wind(0, 0, 1, 0, 60);
    DUE.is(13, "the state's own band", span.safe(0, 0, 0), 1);
    DUE.is(13, "another band", span.safe(65, 0, 0), 0);
  }

  private static void gives() {
    KitePower x = kite();
    x.wind(5, 3, 0, 8, 13);
    x.wind(5, 3, 1, 8, 13);
    int[][] all = {{6, 1, 3, 200}, {6, 2, 3, -217}, {6, 0, 3, 0}, {0, 2, 3, -217}, {6, 7, 3, 316},
        {6, 8, 3, -330}, {6, 6, 3, 0}, {18, 0, 3, -100000000}, {-1, 0, 3, -100000000},
        {0, 45, 3, -100000000}, {0, -1, 3, -100000000}, {0, 0, 24, -100000000},
        {0, 0, -1, -100000000}};
    for (int[] a : all) {
      DUE.is(14, "gives(" + a[0] + ", " + a[1] + ", " + a[2] + ")", x.gives(a[0], a[1], a[2]), a[3]);
    }
    KitePower losing = Due.kite("loss 1200;");
    DUE.is(14, "more loss than pull", losing.gives(0, 1, 0), -200);
    DUE.is(14, "loss of drawing in", losing.gives(0, 2, 0), -2200);
    DUE.is(14, "no loss of holding", losing.gives(0, 0, 0), 0);
  }
}
