/** Promises 34 to 40: the hidden share of the wind, pulls read, what to ask next, counts. */
public final class HiddenTest {
  private static final Due DUE = new Due("HiddenTest");
  private static final int RANGE = KitePower.RANGE;
  private static final int NONE = KitePower.NONE;
  private static final int FULL = KitePower.FULL;
  private static final int ALL = (1 << 21) - 1;

  public static void main(String[] args) {
    hidden();
    read();
    right();
    fit();
    next();
    count();
    DUE.end();
  }

  private static void hidden() {
    KitePower x = new KitePower();
    x.wind(0, 0, 0, 13, 60);
    DUE.is(35, "the whole wind", x.pulls(0, 0, 0), 1690);
    DUE.is(34, "hidden(21)", x.hidden(21), RANGE);
    DUE.is(34, "hidden(-1)", x.hidden(-1), RANGE);
    DUE.is(34, "hidden(20)", x.hidden(20), 10);
    DUE.is(35, "twice the wind", x.pulls(0, 0, 0), 6760);
    DUE.is(34, "hidden(7)", x.hidden(7), 20);
    DUE.is(35, "7 tenths of 13: 9", x.pulls(0, 0, 0), 810);
    DUE.is(35, "across", x.pulls(0, 3, 0), 1215);
    DUE.is(35, "another hour", x.pulls(0, 0, 1), 490);
    DUE.is(35, "another band", x.pulls(119, 15, 0), 98);
    DUE.is(34, "no other call asks it", x.gives(0, 1, 0), 1690);
    DUE.is(34, "hidden(0)", x.hidden(0), 7);
    DUE.is(35, "none of it", x.pulls(0, 0, 0), 0);
    int[][] wrong = {{120, 0, 0}, {-1, 0, 0}, {0, 30, 0}, {0, -1, 0}, {0, 0, 24}, {0, 0, -1}};
    for (int[] w : wrong) {
      DUE.is(35, "pulls", x.pulls(w[0], w[1], w[2]), RANGE);
    }
    KitePower most = Due.kite("lift 99;cross 400;");
    most.wind(0, 0, 0, 60, 60);
    most.hidden(20);
    DUE.is(35, "the greatest", most.pulls(0, 3, 0), 5702400);
  }

  private static void read() {
    KitePower x = new KitePower();
    int[][] wrong = {{-1, 0, 0, 0, 0, 0}, {1000, 0, 0, 0, 0, 0}, {0, -1, 0, 0, 0, 0},
        {0, 120, 0, 0, 0, 0}, {0, 0, -1, 0, 0, 0}, {0, 0, 30, 0, 0, 0}, {0, 0, 0, -1, 0, 0},
        {0, 0, 0, 24, 0, 0}, {0, 0, 0, 0, -1, 0}, {0, 0, 0, 0, 6, 5}, {0, 0, 0, 0, 0, 100000000}};
    for (int[] w : wrong) {
      DUE.is(36, "read", x.read(w[0], w[1], w[2], w[3], w[4], w[5]), RANGE);
    }
    DUE.is(36, "the first", x.read(4, 0, 2, 0, 0, 99999999), 0);
    DUE.is(36, "falling", x.read(3, 0, 0, 0, 0, 0), RANGE);
    DUE.is(36, "winds have their own steps", x.wind(0, 0, 0, 9, 9), 1);
    for (int i = 1; i < 30; i++) {
      DUE.is(36, "read", x.read(4 + i, i, 29, 23, 99999999, 99999999), i);
    }
    DUE.is(36, "the 31st", x.read(40, 0, 0, 0, 0, 0), FULL);
    DUE.is(36, "the 31st, falling", x.read(32, 0, 0, 0, 0, 0), RANGE);
    DUE.is(36, "FULL tells no step", x.right(33, 0, 0, 0), 1);
    DUE.is(40, "count(4)", x.count(4), 30);
  }

  private static void right() {
    KitePower x = new KitePower();
    DUE.is(37, "none read", x.right(0, 0, 0, 0), RANGE);
    x.read(5, 0, 0, 0, 7, 7);
    x.read(5, 0, 0, 0, 8, 8);
    DUE.is(37, "falling", x.right(4, 0, 0, 0), RANGE);
    DUE.is(37, "step 1000", x.right(1000, 0, 0, 0), RANGE);
    DUE.is(37, "reading -1", x.right(5, -1, 0, 0), RANGE);
    DUE.is(37, "reading 2", x.right(5, 2, 0, 0), RANGE);
    DUE.is(37, "low -1", x.right(5, 0, -1, 0), RANGE);
    DUE.is(37, "low above high", x.right(5, 0, 1, 0), RANGE);
    DUE.is(37, "too high", x.right(5, 0, 1, 100000000), RANGE);
    DUE.is(37, "the first", x.right(5, 0, 0, 99999999), 1);
    DUE.is(37, "the second", x.right(9, 0, 0, 5), 2);
    DUE.is(37, "of the other", x.right(9, 1, 0, 5), 1);
    DUE.is(36, "one row of steps", x.read(8, 0, 0, 0, 0, 0), RANGE);
    DUE.is(40, "count(5)", x.count(5), 3);
    for (int i = 4; i <= 20; i++) {
      DUE.is(37, "right", x.right(10, 1, 0, 5), i - 2);
    }
    DUE.is(37, "the 21st", x.right(10, 0, 0, 0), FULL);
    DUE.is(37, "the 21st, wrong", x.right(9, 0, 0, 0), RANGE);
    DUE.is(40, "count(5)", x.count(5), 20);
    Due.tape(x, "").kite();
    x.read(0, 0, 0, 0, 0, 0);
    DUE.is(37, "room again behind kite()", x.right(0, 0, 0, 1), 1);
  }

  /** By a wind of 10 the pull of act 0 is 10 times the share times the share. */
  private static void fit() {
    KitePower x = new KitePower();
    DUE.is(38, "nothing read", x.fit(999), ALL);
    DUE.is(38, "fit(-1)", x.fit(-1), RANGE);
    DUE.is(38, "fit(1000)", x.fit(1000), RANGE);
    x.read(3, 0, 0, 0, 40, 250);
    x.read(5, 0, 6, 0, 0, 240);
    DUE.is(38, "ahead of all", x.fit(2), ALL);
    DUE.is(38, "2 .. 5", x.fit(3), 0b111100);
    DUE.is(38, "2 .. 4", x.fit(5), 0b11100);
    x.right(7, 0, 90, 91);
    x.right(8, 0, 160, 4000);
    DUE.is(38, "as known at 6", x.fit(6), 0b11100);
    DUE.is(38, "as known at 7", x.fit(7), 0b1000);
    DUE.is(38, "as known at 8", x.fit(8), 0b10000);
    x.right(9, 1, 6000, 6000);
    DUE.is(38, "only the greatest", x.fit(9), 1 << 20);
    x.right(9, 1, 0, 0);
    DUE.is(38, "none", x.fit(999), 0);
    x.right(9, 1, 0, 99999999);
    DUE.is(38, "4 .. 20", x.fit(999), ALL & -16);
    x.wind(0, 0, 0, 5, 60);
    // by 5 the winds are 0 0 1 1 2 2 .. 9 9 10: pulls from 160 on from share 8 on
    DUE.is(38, "by the low wind as told now", x.fit(999), ALL & -256);
    DUE.is(38, "though known earlier", x.fit(8), 0b1100000000);
  }

  private static void next() {
    KitePower x = new KitePower();
    DUE.is(39, "next(120, 0)", x.next(120, 0), RANGE);
    DUE.is(39, "next(-1, 0)", x.next(-1, 0), RANGE);
    DUE.is(39, "next(0, 24)", x.next(0, 24), RANGE);
    DUE.is(39, "next(0, -1)", x.next(0, -1), RANGE);
    DUE.is(39, "all part them: the least", x.next(0, 0), 0);
    Due.windsAll(x, 1, 0, 0);
    DUE.is(39, "no wind parts none", x.next(0, 1), NONE);
    x.read(0, 0, 0, 0, 250, 250);
    DUE.is(39, "one share is left", x.next(0, 0), NONE);
    x.right(0, 0, 3, 3);
    DUE.is(39, "none is left", x.next(0, 0), NONE);
    // by a wind of 1 the winds are 0 (10 shares), 1 (10) and 2; half of 1 is cut to 0
    KitePower fine = Due.kite("lift 0 1 2;window 50;");
    fine.wind(0, 0, 0, 1, 1);
    DUE.is(39, "heaps of 10, not of 20", fine.next(2, 0), 30);
    KitePower coarse = Due.kite("lift 0 1 1;window 50;");
    coarse.wind(0, 0, 0, 1, 1);
    DUE.is(39, "heaps of 20: the least", coarse.next(2, 0), 15);
    fine.read(0, 0, 15, 0, 0, 1);
    DUE.is(39, "but one slant parts what is left", fine.next(2, 0), 30);
    fine.read(0, 0, 30, 0, 0, 0);
    DUE.is(39, "ten that none parts", fine.next(2, 0), NONE);
    KitePower slants = Due.kite("lift 0 0 5;");
    DUE.is(39, "the slant that pulls", slants.next(7, 0), 30);
    DUE.is(39, "none pulls", Due.kite("lift 0;").next(7, 0), NONE);
  }

  private static void count() {
    KitePower x = Due.kite("across 6;high 6;rope 8;");
    DUE.is(40, "count(0)", x.count(0), 288);
    Due.tape(x, "abc");
    DUE.is(40, "count(7)", x.count(7), 3);
    DUE.is(40, "count(-1)", x.count(-1), NONE);
    DUE.is(40, "count(8)", x.count(8), NONE);
    DUE.is(40, "count(9)", x.count(9), NONE);
    DUE.is(40, "count(16)", x.count(16), NONE);
    DUE.is(40, "count(least)", x.count(Integer.MIN_VALUE), NONE);
    Due.keep(x, 0, 0, 0);
    Due.keep(x, 5, 0, 6, 3);
    DUE.is(40, "count(10)", x.count(10), 1);
    DUE.is(40, "count(14)", x.count(14), 0);
    DUE.is(40, "count(15)", x.count(15), 2);
  }
}
