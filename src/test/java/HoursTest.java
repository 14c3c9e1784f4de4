/** Promises 25 to 33: hours planned, kites side by side, fields, laws of heights. */
public final class HoursTest {
  private static final Due DUE = new Due("HoursTest");
  private static final int RANGE = KitePower.RANGE;
  private static final int NONE = KitePower.NONE;
  private static final int STATE = KitePower.STATE;
  private static final int FULL = KitePower.FULL;
  private static final int NO_PLAN = -2000000000;

  public static void main(String[] args) {
    plan();
    planCuts();
    planRange();
    apart();
    shift();
    stand();
    field();
    law();
    breach();
    DUE.end();
  }

  private static void planned(KitePower x, int from, int... want) {
    DUE.is(26, "planned(ahead)", x.planned(from - 1), NONE);
    for (int i = 0; i < want.length; i++) {
      DUE.is(26, "planned(" + (from + i) + ")", x.planned(from + i), want[i]);
    }
    DUE.is(26, "planned(behind)", x.planned(from + want.length), NONE);
  }

  /** A tick of the untold kite gives 650 by its best loop; without wind there is none. */
  private static void plan() {
    KitePower x = new KitePower();
    Due.windsAll(x, 1, 0, 0);
    DUE.is(25, "landed between", x.plan(0, 2, 60, 5000, 3000, 10000), 62000);
    planned(x, 0, 1, 0, 1);
    DUE.is(25, "as well landed", x.plan(0, 2, 60, 5000, 3000, 8000), 62000);
    planned(x, 0, 1, 0, 1);
    DUE.is(25, "a fall costs less", x.plan(0, 2, 60, 5000, 3000, 7999), 62001);
    planned(x, 0, 1, 1, 1);
    DUE.is(25, "the last hour not worth it", x.plan(0, 2, 1, 100, 100, 700), 900);
    planned(x, 0, 1, 0, 1);
    DUE.is(25, "one of both ends", x.plan(0, 2, 1, 300, 300, 700), 100);
    planned(x, 0, 1, 0, 1);
    DUE.is(25, "worth nothing", x.plan(0, 2, 1, 300, 350, 700), 0);
    planned(x, 0, 0, 0, 0);
    DUE.is(25, "no loop at all", x.plan(1, 1, 60, 0, 0, 0), 0);
    planned(x, 1, 0);
    DUE.is(25, "the whole day", x.plan(0, 23, 60, 1, 2, 1000000), 23 * 39000 - 6);
    DUE.is(26, "planned(1)", x.planned(1), 0);
    DUE.is(26, "planned(23)", x.planned(23), 1);
    DUE.is(26, "planned(24)", x.planned(24), NONE);
    x.wind(0, 0, 0, 0, 0);
    DUE.is(26, "as it was planned", x.planned(0), 1);
    Due.windsAll(x, 0, 0, 0);
    DUE.is(25, "the wind is over", x.plan(0, 1, 60, 0, 0, 0), 0);
    KitePower late = new KitePower();
    Due.windsAll(late, 5, 0, 0);
    DUE.is(25, "launched late", late.plan(5, 7, 60, 10, 10, 1), 78000 - 20);
    planned(late, 5, 0, 1, 1);
    DUE.is(25, "free falls", late.plan(5, 7, 60, 10, 10, 0), 78000 - 20);
    planned(late, 5, 0, 1, 1);
  }

  private static void planCuts() {
    KitePower x = Due.kite("across 2;high 2;rope 2;weight 0;lift 5;window 100 0;cross 151;");
    DUE.is(15, "best(0)", x.best(0), 2);
    DUE.is(16, "looped(0)", x.looped(0), 755);
    DUE.is(25, "one tick", x.plan(0, 0, 1, 0, 0, 0), 377);
    DUE.is(25, "three ticks", x.plan(0, 0, 3, 0, 0, 0), 1132);
    DUE.is(25, "three ticks, two hours", x.plan(0, 1, 3, 0, 0, 0), 2264);
    KitePower large = Due.kite("lift 99;mark 99999;weight 0;reel 0;cross 400;");
    Due.windsAll(large, 0, 15, 15);
    DUE.is(25, "much", large.plan(0, 0, 60, 0, 0, 0), 60 * 89100 / 2);
  }

  private static void planRange() {
    KitePower x = new KitePower();
    x.plan(3, 3, 1, 0, 0, 0);
    int[][] wrong = {{-1, 0, 1, 0, 0, 0}, {0, 24, 1, 0, 0, 0}, {2, 1, 1, 0, 0, 0},
        {0, 0, 0, 0, 0, 0}, {0, 0, 61, 0, 0, 0}, {0, 0, 1, -1, 0, 0}, {0, 0, 1, 1000001, 0, 0},
        {0, 0, 1, 0, -1, 0}, {0, 0, 1, 0, 1000001, 0}, {0, 0, 1, 0, 0, -1},
        {0, 0, 1, 0, 0, 1000001}};
    for (int[] w : wrong) {
      DUE.is(25, "plan", x.plan(w[0], w[1], w[2], w[3], w[4], w[5]), NO_PLAN);
    }
    planned(x, 3, 1);
    DUE.is(25, "dear", x.plan(0, 0, 60, 1000000, 1000000, 1000000), 0);
  }

  /** 0: it stays; 1: columns 0, 1; 2: columns 2, 1, 0, 1; 3: rows 0, 1; 4: columns 0, 1, 0. */
  private static KitePower loops() {
    KitePower x = new KitePower();
    Due.keep(x, 0, 0, 0);
    Due.keep(x, 1, 0, 6, 3);
    Due.keep(x, 2, 2, 3, 3, 6, 6);
    Due.keep(x, 3, 0, 9, 12);
    Due.keep(x, 4, 0, 6, 3, 0);
    return x;
  }

  private static void apart() {
    KitePower x = loops();
    int[][] all = {{0, 5, 0, 8, 0, 3}, {0, 8, 0, 5, 0, 3}, {0, 0, 0, 40, 99, 40}, {1, 0, 1, 0, 0, 0},
        {1, 0, 1, 0, 1, 1}, {1, 0, 1, 0, 2, 0}, {1, 0, 2, 0, 0, 0}, {1, 0, 2, 0, 1, 1},
        {1, 0, 2, 0, 2, 0}, {1, 0, 2, 0, 3, 1}, {1, 0, 2, 0, 99, 1}, {0, 0, 3, 0, 0, 0},
        {0, 0, 3, 1, 0, 1}, {3, 0, 3, 0, 1, 1}, {3, 0, 3, 2, 1, 3}, {1, 0, 4, 0, 0, 0},
        {1, 0, 4, 2, 0, 1}, {4, 2, 1, 0, 0, 1}, {2, 0, 0, 1, 0, 0}, {2, 0, 0, 4, 0, 2},
        {6, 0, 0, 0, 0, RANGE}, {-1, 0, 0, 0, 0, RANGE}, {0, 41, 0, 0, 0, RANGE},
        {0, -1, 0, 0, 0, RANGE}, {0, 0, 6, 0, 0, RANGE}, {0, 0, -1, 0, 0, RANGE},
        {0, 0, 0, 41, 0, RANGE}, {0, 0, 0, -1, 0, RANGE}, {0, 0, 0, 0, 100, RANGE},
        {0, 0, 0, 0, -1, RANGE}, {5, 0, 0, 0, 100, RANGE}, {5, 0, 0, 0, 0, STATE},
        {0, 0, 5, 0, 0, STATE}};
    for (int[] a : all) {
      DUE.is(27, "apart(" + a[0] + ", " + a[1] + ", " + a[2] + ", " + a[3] + ", " + a[4] + ")",
          x.apart(a[0], a[1], a[2], a[3], a[4]), a[5]);
    }
  }

  private static void shift() {
    KitePower x = loops();
    int[][] all = {{1, 0, 2, 0, 1}, {2, 0, 1, 0, 1}, {1, 0, 1, 0, 1}, {1, 0, 1, 5, 0}, {0, 0, 2, 0, 0},
        {3, 0, 3, 0, 1}, {1, 0, 4, 0, 0}, {2, 0, 2, 0, 1}, {2, 0, 2, 1, 0}, {6, 0, 0, 0, RANGE},
        {0, 0, -1, 0, RANGE}, {0, 41, 0, 0, RANGE}, {0, 0, 0, -1, RANGE}, {5, 0, 0, 0, STATE},
        {0, 0, 5, 0, STATE}};
    for (int[] a : all) {
      DUE.is(28, "shift(" + a[0] + ", " + a[1] + ", " + a[2] + ", " + a[3] + ")",
          x.shift(a[0], a[1], a[2], a[3]), a[4]);
    }
  }

  private static void stand() {
    KitePower x = loops();
    DUE.is(29, "stand(-1, 0)", x.stand(-1, 0), RANGE);
    DUE.is(29, "stand(41, 0)", x.stand(41, 0), RANGE);
    DUE.is(29, "stand(0, 6)", x.stand(0, 6), RANGE);
    DUE.is(29, "stand(0, -1)", x.stand(0, -1), RANGE);
    DUE.is(29, "stand(0, 5)", x.stand(0, 5), STATE);
    for (int i = 0; i < 8; i++) {
      DUE.is(29, "stand", x.stand(5 * i, 1), i);
    }
    DUE.is(29, "the ninth", x.stand(40, 1), FULL);
    DUE.is(29, "the ninth of none", x.stand(40, 5), STATE);
    DUE.is(29, "the ninth nowhere", x.stand(41, 0), RANGE);
    DUE.is(40, "count(2)", x.count(2), 8);
  }

  private static void field() {
    KitePower x = new KitePower();
    DUE.is(30, "no stands", x.field(), 0);
    Due.keep(x, 0, 0, 7, 4, 17, 17);
    Due.keep(x, 1, 0, 1, 17);
    Due.keep(x, 2, 0, 16, 2);
    x.stand(0, 1);
    DUE.is(31, "fielded() ahead of field()", x.fielded(), 0);
    DUE.is(30, "one", x.field(), 800);
    DUE.is(31, "fielded()", x.fielded(), 1);
    x.stand(1, 0);
    DUE.is(31, "fielded() behind a stand", x.fielded(), 0);
    DUE.is(30, "two that meet", x.field(), 2600);
    DUE.is(31, "fielded()", x.fielded(), 2);
    DUE.is(29, "a stand that is refused", x.stand(0, 5), STATE);
    DUE.is(31, "fielded()", x.fielded(), 2);
    x.stand(20, 2);
    DUE.is(30, "one that loses", x.field(), 2600);
    DUE.is(31, "fielded()", x.fielded(), 2);
    x.stand(1, 0);
    DUE.is(30, "the same twice", x.field(), 2600);
    DUE.is(31, "the least set", x.fielded(), 2);
    x.stand(4, 1);
    DUE.is(30, "two that are apart", x.field(), 3400);
    DUE.is(31, "fielded()", x.fielded(), 18);
    // as they were kept, whatever comes later
    Due.windsAll(x, 0, 20, 20);
    Due.keep(x, 0, 0, 0);
    Due.keep(x, 1, 0, 0);
    DUE.is(30, "as they were", x.field(), 3400);
    KitePower losing = new KitePower();
    Due.keep(losing, 0, 0, 16, 2);
    losing.stand(0, 0);
    DUE.is(30, "none is best", losing.field(), 0);
    DUE.is(31, "fielded()", losing.fielded(), 0);
    edgeOfMeeting();
  }

  private static void edgeOfMeeting() {
    KitePower x = new KitePower();
    Due.keep(x, 0, 0, 1, 17);
    x.stand(5, 0);
    x.stand(6, 0);
    x.stand(7, 0);
    DUE.is(30, "1 apart meet, 2 don't", x.field(), 1600);
    DUE.is(31, "fielded()", x.fielded(), 5);
  }

  private static void law() {
    KitePower x = new KitePower();
    int[][] wrong = {{-1, 0, 5}, {0, 24, 5}, {24, 24, 5}, {1, 0, 5}, {0, 0, -1}, {0, 0, 10000}};
    for (int[] w : wrong) {
      DUE.is(32, "law", x.law(w[0], w[1], w[2]), RANGE);
    }
    for (int i = 1; i <= 10; i++) {
      DUE.is(32, "law", x.law(0, 23, i % 2 == 0 ? 9999 : 0), i);
    }
    DUE.is(32, "the eleventh", x.law(0, 0, 0), FULL);
    DUE.is(32, "the eleventh, wrong", x.law(1, 0, 0), RANGE);
    DUE.is(40, "count(3)", x.count(3), 10);
  }

  private static void breach() {
    KitePower x = new KitePower();
    Due.keep(x, 0, 0, 1, 1, 2, 2);
    DUE.is(33, "no law", x.breach(0, 0, 1, 5000), NONE);
    // heights 5, 10, 15, 10
    x.law(3, 4, 14);
    int[][] all = {{3, 60, 5000, 2}, {3, 60, 2, NONE}, {3, 60, 3, 2}, {5, 1, 5000, 22},
        {2, 1, 5000, 2}, {1, 1, 5000, 2}, {0, 1, 5000, NONE}, {23, 60, 5000, 4 * 60 + 2}, {4, 1, 2, NONE},
        {0, 2, 5000, 6}};
    for (int[] a : all) {
      DUE.is(33, "breach(0, " + a[0] + ", " + a[1] + ", " + a[2] + ")",
          x.breach(0, a[0], a[1], a[2]), a[3]);
    }
    x.law(4, 4, 15);
    x.law(4, 4, 4);
    DUE.is(33, "at once", x.breach(0, 4, 1, 1), 0);
    x.law(7, 7, 15);
    DUE.is(33, "just as high", x.breach(0, 7, 60, 60), NONE);
    DUE.is(33, "slot 6", x.breach(6, 0, 1, 1), RANGE);
    DUE.is(33, "slot -1", x.breach(-1, 0, 1, 1), RANGE);
    DUE.is(33, "hour 24", x.breach(0, 24, 1, 1), RANGE);
    DUE.is(33, "hour -1", x.breach(0, -1, 1, 1), RANGE);
    DUE.is(33, "each 0", x.breach(0, 0, 0, 1), RANGE);
    DUE.is(33, "each 61", x.breach(0, 0, 61, 1), RANGE);
    DUE.is(33, "ticks 0", x.breach(0, 0, 1, 0), RANGE);
    DUE.is(33, "ticks 5001", x.breach(0, 0, 1, 5001), RANGE);
    DUE.is(33, "none kept", x.breach(1, 0, 1, 1), STATE);
  }
}
