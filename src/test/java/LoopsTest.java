/** Promises 15 to 24: best loops, rows judged and kept, rules flown, ropes that tire. */
public final class LoopsTest {
  private static final Due DUE = new Due("LoopsTest");
  private static final int RANGE = KitePower.RANGE;
  private static final int NONE = KitePower.NONE;
  private static final int STATE = KitePower.STATE;
  private static final int NOTHING = -100000000;

  public static void main(String[] args) {
    best();
    judge();
    keep();
    fly();
    flyHours();
    flyConds();
    held();
    tired();
    rounds();
    DUE.end();
  }

  private static void best(KitePower x, int hour, int sum, int start, int... acts) {
    DUE.is(15, "best(" + hour + ")", x.best(hour), acts.length);
    DUE.is(16, "looped(0)", x.looped(0), sum);
    DUE.is(16, "looped(1)", x.looped(1), start);
    for (int i = 0; i < acts.length; i++) {
      DUE.is(16, "looped(" + (10 + i) + ")", x.looped(10 + i), acts[i]);
    }
    DUE.is(16, "looped(behind)", x.looped(10 + acts.length), NOTHING);
  }

  private static void best() {
    String small = "across 2;high 2;rope 2;weight 0;";
    KitePower x = Due.kite(small + "lift 10;window 100 0;");
    DUE.is(16, "looped ahead of any", x.looped(1), NOTHING);
    best(x, 0, 1500, 0, 7, 5);
    DUE.is(16, "looped(2)", x.looped(2), NOTHING);
    DUE.is(16, "looped(9)", x.looped(9), NOTHING);
    DUE.is(16, "looped(-1)", x.looped(-1), NOTHING);
    best(Due.kite(small + "lift 10;window 100 0;loss 10;"), 0, 1480, 0, 7, 5);
    best(Due.kite(small + "lift 10 10;window 100 0;"), 0, 1500, 0, 7, 5);
    best(Due.kite(small + "lift 9 10;window 100 0;"), 0, 1500, 0, 22, 5);
    best(Due.kite(small + "lift 10;window 0 100;"), 0, 1500, 1, 4, 8);
    // nothing to win: to hold, from the least state
    best(Due.kite("loss 9999;"), 0, 0, 0, 0);
    // a span costs: out by low, in by high
    KitePower span = Due.kite(small + "lift 10;cross 100;reel 90;");
    best(span, 7, 100, 0, 1, 2);
    Due.windsAll(span, 7, 10, 11);
    best(span, 7, 0, 0, 0);
    DUE.is(15, "best(-1)", x.best(-1), RANGE);
    DUE.is(15, "best(24)", x.best(24), RANGE);
    Due.tape(x, "").kite();
    DUE.is(16, "looped behind kite()", x.looped(0), 1500);
    Due.windsAll(x, 5, 0, 0);
    DUE.is(15, "no loop", x.best(5), NONE);
    DUE.is(16, "looped of the latest with one", x.looped(0), 1500);
    best(x, 0, 2600, 0, 7, 4, 17, 17);
    Due.windsAll(x, 0, 12, 12);
    best(x, 0, 3744, 0, 7, 4, 17, 17);
    best(Due.kite("across 6;high 6;rope 8;"), 23, 2600, 0, 7, 4, 17, 17);
    lossOnly();
  }

  /** But one loop can be flown, and it loses. */
  private static void lossOnly() {
    KitePower x = Due.kite("across 2;high 2;rope 2;unit 50;lift 10;window 50 100;weight 700;"
        + "mark 900;reel 398;");
    x.wind(0, 0, 1, 7, 7);
    x.wind(0, 0, 2, 0, 0);
    best(x, 0, 750 - 2925, 0, 7, 5);
    DUE.is(25, "a plan of losses", x.plan(0, 0, 60, 0, 0, 0), 0);
    DUE.is(26, "planned(0)", x.planned(0), 0);
  }

  private static void judged(KitePower x, int... want) {
    for (int i = 0; i < want.length; i++) {
      DUE.is(18, "judged(" + i + ")", x.judged(i), want[i]);
    }
  }

  private static void judge() {
    KitePower x = new KitePower();
    DUE.is(17, "an empty row", x.judge(0, 0), NONE);
    judged(x, NONE, NONE, NONE, NONE, NONE);
    DUE.is(17, "out, in, in", Due.judge(x, 0, 0, 1, 2, 2), 2);
    judged(x, 0, 1000, 1000, 1000, 0, NONE);
    DUE.is(18, "judged(-1)", x.judged(-1), NONE);
    DUE.is(17, "out", Due.judge(x, 0, 0, 1), 1);
    judged(x, 20, 1000, 0, 1000, 0);
    DUE.is(17, "in", Due.judge(x, 0, 0, 2), 0);
    judged(x, 0, 0, 0, 0, 0);
    DUE.is(17, "no state", Due.judge(x, 120, 0, 1), RANGE);
    DUE.is(17, "no state", Due.judge(x, -1, 0, 1), RANGE);
    DUE.is(17, "no hour", Due.judge(x, 0, 24, 1), RANGE);
    DUE.is(17, "no hour", Due.judge(x, 0, -1, 1), RANGE);
    DUE.is(17, "no hour, no row", Due.judge(x, 0, -1), RANGE);
    DUE.is(17, "no act", Due.judge(x, 0, 0, 1, -1), NONE);
    DUE.is(17, "no act", Due.judge(x, 0, 0, 30), NONE);
    DUE.is(17, "no act", Due.judge(x, 0, 0, 150), NONE);
    judged(x, 0, 0, 0, 0, 0);
    DUE.is(17, "the last act", Due.judge(x, 119, 0, 29), 1);
    judged(x, 94, 0, 200, 200, 0);
    DUE.is(17, "100 acts", Due.judge(x, 0, 0, new int[100]), 100);
    judged(x, 0, 0, 0, 1000, 1);
    DUE.is(17, "101 acts", Due.judge(x, 0, 0, new int[101]), NONE);
    KitePower losing = Due.kite("loss 1200;reel 50;");
    losing.wind(0, 2, 0, 8, 12);
    DUE.is(17, "a losing loop", Due.judge(losing, 0, 2, 7, 5), 2);
    judged(losing, 0, 960 - 1200, 2160 / 2 + 1200, 2160, 1);
    losing.wind(0, 2, 0, 0, 0);
    judged(losing, 0, 960 - 1200, 2160 / 2 + 1200, 2160, 1);
  }

  private static void keep() {
    KitePower x = new KitePower();
    DUE.is(19, "ahead of any", x.keep(0), STATE);
    Due.judge(x, 0, 0, 1);
    DUE.is(19, "no loop", x.keep(0), STATE);
    DUE.is(19, "slot 6", x.keep(6), RANGE);
    DUE.is(19, "slot -1", x.keep(-1), RANGE);
    Due.judge(x, 0, 0, 1, 2);
    DUE.is(19, "a loop", x.keep(0), 2);
    DUE.is(19, "the same again", x.keep(5), 2);
    DUE.is(40, "count(15)", x.count(15), 2);
    Due.judge(x, 0, 0, -1);
    DUE.is(19, "behind a row that is none", x.keep(1), 2);
    Due.judge(x, 999, 0, 1);
    DUE.is(19, "behind RANGE", x.keep(2), 2);
    Due.judge(x, 0, 0, 1, 2, 2);
    DUE.is(19, "not all safe", x.keep(3), STATE);
    DUE.is(40, "count(13)", x.count(13), 0);
    Due.judge(x, 0, 0, 0, 0, 0);
    x.keep(0);
    DUE.is(40, "count(10)", x.count(10), 3);
  }

  private static void flown(KitePower x, int fate, int work, int end, int... acts) {
    DUE.is(21, "flown(0)", x.flown(0), fate);
    DUE.is(21, "flown(1)", x.flown(1), work);
    DUE.is(21, "flown(2)", x.flown(2), end);
    for (int i = 0; i < acts.length; i++) {
      DUE.is(21, "flown(" + (10 + i) + ")", x.flown(10 + i), acts[i]);
    }
    DUE.is(21, "flown(behind)", x.flown(10 + acts.length), NOTHING);
  }

  private static void fly() {
    KitePower x = new KitePower();
    DUE.is(21, "flown ahead of any", x.flown(2), NOTHING);
    Due.rules(x, "when column is 0 do 1 left out;");
    DUE.is(20, "fly", x.fly(0, 0, 7, 1, false), 7);
    flown(x, 0, 1000, 100, 16, 16, 16, 16, 16, 15, 15);
    DUE.is(21, "flown(3)", x.flown(3), NOTHING);
    DUE.is(21, "flown(9)", x.flown(9), NOTHING);
    DUE.is(21, "flown(-1)", x.flown(-1), NOTHING);
    Due.rules(x, "when column below 4 do 0 right hold;when column is 4 do 1 down in;");
    DUE.is(20, "fly", x.fly(42, 0, 5, 1, false), 5);
    flown(x, 0, -400, 4, 6, 6, 17, 17, 15);
    int[][] wrong = {{120, 0, 1, 1}, {-1, 0, 1, 1}, {0, 24, 1, 1}, {0, -1, 1, 1}, {0, 0, 0, 1},
        {0, 0, 501, 1}, {0, 0, 1, 0}, {0, 0, 1, 61}};
    for (int[] w : wrong) {
      DUE.is(20, "fly", x.fly(w[0], w[1], w[2], w[3], true), RANGE);
    }
    flown(x, 0, -400, 4, 6, 6, 17, 17, 15);
    DUE.is(20, "500 ticks", x.fly(0, 0, 500, 60, true), 500);
    DUE.is(21, "flown(509)", x.flown(509), 15);
    DUE.is(21, "flown(510)", x.flown(510), NOTHING);
    KitePower weak = Due.kite("mark 1200;");
    Due.rules(weak, "when column below 4 do 0 right out;");
    DUE.is(20, "broken at once", weak.fly(0, 0, 9, 1, true), 0);
    flown(weak, 2, 0, 0);
    KitePower both = Due.kite("weight 2000;mark 500;");
    DUE.is(20, "fallen and broken", both.fly(7, 0, 9, 1, true), 0);
    flown(both, 1, 0, 7);
    KitePower edges = Due.kite("weight 1000;mark 1000;");
    DUE.is(20, "at both edges", edges.fly(7, 0, 9, 1, true), 9);
    KitePower costs = Due.kite("reel 37;loss 11;");
    Due.rules(costs, "when rope is 0 do 0 stay out;when rope is 1 do 1 up in;");
    DUE.is(20, "out and in", costs.fly(0, 0, 2, 1, true), 2);
    flown(costs, 0, 1000 - 11 - 74 - 11, 5, 1, 26);
  }

  private static void flyHours() {
    KitePower x = new KitePower();
    x.wind(0, 0, 0, 3, 10);
    DUE.is(20, "into a weak hour", x.fly(0, 23, 9, 2, false), 2);
    flown(x, 1, 0, 0, 0, 0);
    DUE.is(20, "by high", x.fly(0, 23, 9, 2, true), 9);
    DUE.is(20, "ahead of it", x.fly(0, 23, 60, 60, false), 60);
    DUE.is(20, "just into it", x.fly(0, 23, 61, 60, false), 60);
    DUE.is(20, "round the clock", x.fly(0, 1, 500, 1, false), 23);
  }

  private static void flyConds() {
    KitePower x = new KitePower();
    x.wind(0, 0, 0, 9, 10);
    Due.rules(x, "when pull above 999 do 1 stay hold;when pull above 809 do 1 up hold;"
        + "when pull above 809 do 1 up out;");
    x.fly(0, 0, 1, 1, true);
    flown(x, 0, 0, 0, 15);
    x.fly(0, 0, 1, 1, false);
    flown(x, 0, 0, 5, 24);
    Due.rules(x, "when pull above 1000 do 1 up hold;when pull below 1000 do 1 right hold;"
        + "when pull is 1000 do 1 left hold;");
    x.fly(2, 0, 1, 1, true);
    flown(x, 0, 0, 1, 18);
    Due.rules(x, "when height is 5 and row is 0 and rope is 0 do 1 up hold;"
        + "when height below 10 do 1 left hold;when height above 9 and column above 1 do 0 stay out;"
        + "when row is 1 and rope below 1 do 1 right in;");
    x.fly(0, 1, 4, 1, true);
    flown(x, 0, 1000, 27, 24, 21, 21, 1);
  }

  private static void held() {
    KitePower x = new KitePower();
    DUE.is(22, "held(0)", x.held(0), 120);
    DUE.is(22, "held(-1)", x.held(-1), RANGE);
    DUE.is(22, "held(24)", x.held(24), RANGE);
    x.wind(0, 0, 3, 3, 10);
    // band 3 is the five states of row 3 at rope 5
    DUE.is(22, "by low", x.held(0), 115);
    x.wind(0, 1, 3, 10, 60);
    DUE.is(22, "by high", x.held(1), 115);
    DUE.is(22, "another hour", x.held(2), 120);
    Due.rules(x, "when row above 2 do 0 stay out;");
    DUE.is(22, "drawn into it", x.held(0), 90);
    Due.rules(x, "when rope is 5 do 0 up hold;when row above 3 do 0 stay hold;");
    DUE.is(22, "a whole side", x.held(1), 100);
    DUE.is(22, "none", Due.kite("mark 999;").held(0), 0);
  }

  private static void tired() {
    KitePower x = new KitePower();
    DUE.is(23, "tired(1000000)", x.tired(1000000), 0);
    DUE.is(23, "tired(1000001)", x.tired(1000001), RANGE);
    DUE.is(23, "tired(-1)", x.tired(-1), RANGE);
    DUE.is(23, "tired(3)", x.tired(3), 1000000);
    DUE.is(40, "count(6)", x.count(6), 3);
  }

  private static void rounds() {
    KitePower x = new KitePower();
    DUE.is(24, "none kept", x.rounds(0, 0, 10), STATE);
    Due.keep(x, 0, 0, 6, 3);
    Due.keep(x, 1, 0, 0);
    x.wind(0, 1, 0, 8, 14);
    int[][] all = {{0, 0, 10, 1}, {0, 0, 9, 0}, {0, 0, 29, 2}, {0, 0, 1000000, 100000},
        {0, 1, 37, 0}, {0, 1, 38, 1}, {0, 1, 1000000, 26315}, {1, 0, 0, 100000}, {1, 1, 8, 0},
        {1, 1, 9, 1}, {6, 0, 0, RANGE}, {-1, 0, 0, RANGE}, {2, 24, 0, RANGE}, {2, -1, 0, RANGE},
        {2, 0, -1, RANGE}, {2, 0, 1000001, RANGE}, {2, 0, 0, STATE}};
    for (int[] a : all) {
      DUE.is(24, "rounds(" + a[0] + ", " + a[1] + ", " + a[2] + ")", x.rounds(a[0], a[1], a[2]), a[3]);
    }
    x.tired(20);
    DUE.is(24, "tired 20 to 29", x.rounds(0, 0, 29), 0);
    DUE.is(24, "tired 20 to 30", x.rounds(0, 0, 30), 1);
    DUE.is(24, "tired 20 to 20", x.rounds(1, 0, 20), 100000);
    DUE.is(24, "tired 20 to 19", x.rounds(1, 0, 19), 0);
  }
}
