/** Each sentence of "III. A LOOP" and of promises 15 to 24 that names an edge, by its own words. */
public final class EdgesOfLoopsTest {
  private static final Due DUE = new Due("EdgesOfLoopsTest");
  private static final int NONE = KitePower.NONE;
  private static final int RANGE = KitePower.RANGE;
  private static final int STATE = KitePower.STATE;
  private static final int NOTHING = -100000000;
  private static final int LEAST = Integer.MIN_VALUE;
  private static final int MOST = Integer.MAX_VALUE;

  public static void main(String[] args) {
    oneAct();
    greatestMean();
    shortest();
    leastState();
    leastRow();
    safeInAllOfASpan();
    ownWinds();
    bestRefused();
    loopedOthers();
    rowsOfAnyLength();
    rowsOfActs();
    safeFromTheFirst();
    sums();
    judgeRange();
    judgedOthers();
    keepRefused();
    keptSlots();
    firstLine();
    condEdges();
    withoutALine();
    walls();
    fallenOrBroken();
    withoutThisTick();
    flyRange();
    hoursGoRound();
    flownOthers();
    held200();
    heldHours();
    tired();
    tireEdges();
    roundsEdges();
    roundsRange();
    DUE.end();
  }

  private static void best(KitePower x, int hour, int sum, int start, int... acts) {
    DUE.is("best(" + hour + ")", x.best(hour), acts.length);
    DUE.is("looped(0)", x.looped(0), sum);
    DUE.is("looped(1)", x.looped(1), start);
    for (int i = 0; i < acts.length; i++) {
      DUE.is("looped(" + (10 + i) + ")", x.looped(10 + i), acts[i]);
    }
    DUE.is("looped(" + (10 + acts.length) + ")", x.looped(10 + acts.length), NOTHING);
  }

  // ---- best loops

  private static void oneAct() {
    DUE.by("A LOOP at an hour: a row of SAFE ACTS (1 or more) from a STATE back to it");
    best(Due.kite("loss 9999;"), 0, 0, 0, 0);
    KitePower x = new KitePower();
    DUE.is("a row of 1", Due.judge(x, 119, 0, 0), 1);
    DUE.is("judged(4)", x.judged(4), 1);
    DUE.is("a row of 0", Due.judge(x, 119, 0), NONE);
    // but one STATE is in the one wind that bears the kite, and to hold there is all that is left
    KitePower high = Due.kite("across 2;high 2;rope 2;unit 50;weight 900;cross 400;mark 1000;"
        + "window 50 100;");
    high.wind(0, 0, 0, 0, 0);
    high.wind(0, 0, 1, 0, 0);
    best(high, 0, 0, 7, 0);
  }

  private static void greatestMean() {
    DUE.by("BEST LOOP: the greatest MEAN");
    KitePower x = new KitePower();
    best(x, 0, 2600, 0, 7, 4, 17, 17);
    DUE.is("another LOOP", Due.judge(x, 0, 0, 7, 20), 2);
    DUE.is("judged(4)", x.judged(4), 1);
    DUE.is("its MEAN is less: 1200 over 2", x.judged(1) - x.judged(2), 1200);
    DUE.is("a longer one", Due.judge(x, 0, 0, 7, 4, 7, 4, 17, 17, 23, 20), 8);
    DUE.is("its sum is more, its MEAN less: 5000 over 8", x.judged(1) - x.judged(2), 5000);
    // out and in: 10 over 2 is more than to hold: 0 over 1
    best(Due.kite("across 2;high 2;rope 2;lift 10;cross 100;reel 99;"), 0, 10, 0, 1, 2);
    best(Due.kite("across 2;high 2;rope 2;lift 10;cross 100;reel 101;"), 0, 0, 0, 0);
  }

  private static void shortest() {
    DUE.by("then the shortest");
    // out and in give as much as to hold: 0
    best(Due.kite("across 2;high 2;rope 2;lift 10;cross 100;reel 100;"), 0, 0, 0, 0);
    KitePower x = new KitePower();
    DUE.is("the best twice over", Due.judge(x, 0, 0, 7, 4, 17, 17, 7, 4, 17, 17), 8);
    DUE.is("is a LOOP with the same MEAN", x.judged(1) - x.judged(2), 5200);
    best(x, 0, 2600, 0, 7, 4, 17, 17);
    // in BAND 0 but the way right and left again bears the KITE; above it to hold does too
    KitePower low = Due.kite("across 2;high 2;rope 2;unit 50;cross 400;weight 2000;loss 9999;");
    low.wind(0, 0, 1, 20, 20);
    low.wind(0, 0, 2, 20, 20);
    DUE.is("2 ACTS from STATE 0", Due.judge(low, 0, 0, 6, 3), 2);
    DUE.is("judged(4)", low.judged(4), 1);
    DUE.is("1 ACT from STATE 0", Due.judge(low, 0, 0, 0), 0);
    best(low, 0, 0, 2, 0);
  }

  private static void leastState() {
    DUE.by("then the least STATE (number) from which it goes (A LOOP with the greatest MEAN goes from "
        + "each of its STATES)");
    KitePower x = Due.kite("across 2;high 2;rope 2;weight 0;lift 10;window 100 0;");
    best(x, 0, 1500, 0, 7, 5);
    DUE.is("from its other STATE, a lesser row", Due.judge(x, 5, 0, 5, 7), 2);
    DUE.is("judged(4)", x.judged(4), 1);
    DUE.is("the same sum", x.judged(1) - x.judged(2), 1500);
    DUE.is("the same LOOP a row higher", Due.judge(x, 2, 0, 7, 5), 2);
    DUE.is("judged(4)", x.judged(4), 1);
    // the three lowest BANDS without wind: only STATES at the top are left
    KitePower top = Due.kite("across 2;high 2;rope 8;unit 50;weight 100;lift 10;cross 100;reel 50;");
    for (int band = 0; band < 4; band++) {
      top.wind(0, 0, band, 0, 0);
    }
    // HEIGHT from 160: row 0 from rope 6 (175), row 1 from rope 3 (200)
    DUE.is("state(14, 3)", top.state(14, 3), 200);
    DUE.is("state(24, 3)", top.state(24, 3), 175);
    best(top, 0, 500, 14, 1, 2);
  }

  private static void leastRow() {
    DUE.by("then the least row of ACTS");
    // from 0 there are 7, 17, 4, 17 and 7, 4, 26, 29 with as much
    KitePower x = new KitePower();
    for (int[] row : new int[][] {{7, 17, 4, 17}, {7, 4, 26, 29}}) {
      DUE.is("as good", Due.judge(x, 0, 0, row), 4);
      DUE.is("as good", x.judged(1) - x.judged(2), 2600);
      DUE.is("as good", x.judged(4), 1);
    }
    best(x, 0, 2600, 0, 7, 4, 17, 17);
    best(Due.kite("lift 2 10;"), 0, 2600, 0, 22, 2, 19, 2);
    best(Due.kite("lift 10 10 2;"), 0, 2600, 0, 7, 4, 32, 32);
    best(Due.kite("lift 10 2 2;"), 0, 2600, 0, 7, 4, 17, 17);
    best(Due.kite("lift 2 10 2;"), 0, 2600, 0, 22, 2, 19, 2);
    // across gives no more: to stay is least, and so is to hold with slant 0
    best(Due.kite("cross 100;"), 0, 800, 0, 1, 17);
    best(Due.kite("cross 100;loss 9999;lift 1 1 1;"), 0, 0, 0, 0);
    best(Due.kite("lift 0 1 1;"), 0, 100, 0, 22, 17, 19, 17);
  }

  private static void safeInAllOfASpan() {
    DUE.by("A LOOP: a row of SAFE ACTS: which acts are safe in all of a span");
    KitePower x = new KitePower();
    Due.windsAll(x, 1, 10, 44);
    Due.windsAll(x, 2, 10, 45);
    Due.windsAll(x, 3, 8, 36);
    DUE.is("stay, at 44 below the mark", x.safe(0, 0, 1), 1);
    DUE.is("left, at 44 above it", x.safe(1, 3, 1), 0);
    DUE.is("stay, at 45 above it", x.safe(0, 0, 2), 0);
    DUE.is("slant 1, at 8 above weight", x.safe(0, 15, 3), 1);
    best(x, 1, 0, 0, 0);
    best(x, 2, 0, 0, 15);
    best(x, 3, 0, 0, 0);
    Due.windsAll(x, 4, 9, 60);
    best(x, 4, 0, 0, 15);
    Due.windsAll(x, 5, 5, 60);
    DUE.is("low too low, high too high", x.best(5), NONE);
    Due.windsAll(x, 6, 10, 11);
    best(x, 6, 3000 - 484, 0, 7, 4, 17, 17);
  }

  /** Hours with the same winds have the same LOOP, and no others. */
  private static void ownWinds() {
    DUE.by("BEST LOOP at an hour");
    KitePower x = new KitePower();
    best(x, 0, 2600, 0, 7, 4, 17, 17);
    for (int band = 0; band < 5; band++) {
      x.wind(0, 1, band, 10, 11);
      x.wind(0, 2, band, 9, 10);
      x.wind(0, 3, band, 9, 11);
    }
    best(x, 1, 2516, 0, 7, 4, 17, 17);
    best(x, 2, 2030, 0, 7, 4, 17, 17);
    best(x, 3, 2430 - 484, 0, 7, 4, 17, 17);
    best(x, 4, 2600, 0, 7, 4, 17, 17);
    // another wind in but one BAND
    x.wind(0, 5, 0, 0, 0);
    x.wind(0, 6, 0, 20, 20);
    // ROW 3 is in BAND 1 from rope 1 on
    best(x, 5, 2600, 35, 7, 4, 17, 17);
    // out at ropes 0 and 1 of ROW 2 in BAND 0; in at rope 2 of ROW 2 and rope 1 of ROW 3 in BAND 1
    best(x, 6, 12000 - 400, 10, 7, 4, 26, 29);
    best(x, 0, 2600, 0, 7, 4, 17, 17);
    x.wind(0, 0, 0, 20, 20);
    best(x, 0, 12000 - 400, 10, 7, 4, 26, 29);
    x.wind(0, 7, 4, 60, 60);
    best(x, 7, 2600, 0, 7, 4, 17, 17);
  }

  private static void bestRefused() {
    DUE.by("how many ACTS it has; NONE: there is no LOOP; RANGE");
    KitePower x = new KitePower();
    for (int hour : new int[] {-1, 24, LEAST, MOST}) {
      DUE.is("best(" + hour + ")", x.best(hour), RANGE);
    }
    DUE.is("looped(0) ahead of any", x.looped(0), NOTHING);
    Due.windsAll(x, 23, 0, 0);
    DUE.is("best(23)", x.best(23), NONE);
    DUE.is("looped(0) behind NONE alone", x.looped(0), NOTHING);
    best(x, 22, 2600, 0, 7, 4, 17, 17);
    best(x, 0, 2600, 0, 7, 4, 17, 17);
    DUE.is("a KITE too heavy", Due.kite("weight 9999;").best(0), NONE);
    DUE.is("a rope too weak", Due.kite("mark 1;").best(0), NONE);
  }

  private static void loopedOthers() {
    DUE.by("Of the latest best() that told a number .. -100000000 when there is none such");
    KitePower x = new KitePower();
    for (int what : new int[] {0, 1, 10}) {
      DUE.is("looped(" + what + ") ahead of any", x.looped(what), NOTHING);
    }
    x.best(0);
    Due.windsAll(x, 1, 0, 0);
    DUE.is("best(1)", x.best(1), NONE);
    DUE.is("best(24)", x.best(24), RANGE);
    x.plan(0, 1, 1, 0, 0, 0);
    DUE.is("looped(0)", x.looped(0), 2600);
    DUE.is("looped(13)", x.looped(13), 17);
    for (int what : new int[] {-1, 2, 9, 14, 15, 309, LEAST, MOST}) {
      DUE.is("looped(" + what + ")", x.looped(what), NOTHING);
    }
    Due.windsAll(x, 2, 0, 60);
    Due.tape(x, "loss 9999;").kite();
    DUE.is("looped(10) behind kite()", x.looped(10), 7);
    best(x, 0, 0, 0, 0);
  }

  // ---- rows judged and kept

  private static void rowsOfAnyLength() {
    DUE.by("A ROW, told on THE TAPE, at most 100 / NONE: it is none (0 or more than 100 bytes)");
    KitePower x = new KitePower();
    int[][] all = {{0, NONE}, {1, 1}, {2, 2}, {99, 99}, {100, 100}, {101, NONE}, {102, NONE},
        {799, NONE}, {800, NONE}};
    for (int[] a : all) {
      DUE.is(a[0] + " acts", Due.tape(x, "0".repeat(a[0])).judge(0, 0), a[1]);
    }
    DUE.is("100 acts are kept", Due.tape(x, "0".repeat(100)).judge(0, 0), 100);
    DUE.is("keep(0)", x.keep(0), 100);
    DUE.is("count(10)", x.count(10), 100);
  }

  private static void rowsOfActs() {
    DUE.by("bytes: each an ACT's number and 48 / NONE: a byte that is no ACT");
    String[] lifts = {"lift 5;", "lift 5 5;", "lift 5 5 5;"};
    for (int i = 0; i < 3; i++) {
      KitePower x = Due.kite(lifts[i]);
      for (int b = 0; b < 256; b += b < 40 || b > 100 ? 9 : 1) {
        boolean isAct = b >= 48 && b < 48 + 15 * (i + 1);
        DUE.is("byte " + b, Due.tape(x, "0" + (char) b).judge(0, 0) == NONE ? 0 : 1, isAct ? 1 : 0);
      }
    }
    KitePower x = new KitePower();
    DUE.is("30 acts", Due.judge(x, 1, 0, 0, 29), 1);
    DUE.is("none behind the first unsafe one either", Due.judge(x, 1, 0, 2, 30), NONE);
    DUE.is("blanks are no ACTS", Due.tape(x, "0 ").judge(0, 0), NONE);
    DUE.is("byte 255", Due.tape(x, "\u00ff").judge(0, 0), NONE);
  }

  private static void judged(KitePower x, int... want) {
    for (int i = 0; i < want.length; i++) {
      DUE.is("judged(" + i + ")", x.judged(i), want[i]);
    }
  }

  private static void safeFromTheFirst() {
    DUE.by("how many ACTS from the first on are SAFE; where that ends; .. both over the SAFE ones; the "
        + "greatest PULL by high among them");
    KitePower x = Due.kite("mark 1200;");
    DUE.is("none is SAFE", Due.judge(x, 0, 0, 6, 1, 2), 0);
    judged(x, 0, 0, 0, 0, 0);
    DUE.is("SAFE, unsafe, SAFE", Due.judge(x, 0, 0, 1, 6, 2), 1);
    judged(x, 20, 1000, 0, 1000, 0);
    DUE.is("an unsafe one at the end", Due.judge(x, 0, 0, 1, 17, 6), 2);
    judged(x, 0, 1000, 200, 1000, 0);
    DUE.is("all are SAFE", Due.judge(x, 0, 0, 1, 17, 9), 3);
    judged(x, 5, 1000, 200, 1000, 0);
    DUE.is("off the STATES", Due.judge(x, 0, 0, 12), 0);
    DUE.is("off the STATES, later", Due.judge(x, 0, 0, 1, 1, 1, 1, 1, 1, 2), 5);
    judged(x, 100, 5000, 0, 1000, 0);
    StringBuilder row = new StringBuilder("0".repeat(99)).append('6');
    DUE.is("the 100th is unsafe", Due.tape(x, row.toString()).judge(0, 0), 99);
    judged(x, 0, 0, 0, 1000, 0);
    KitePower span = Due.kite("loss 30;");
    span.wind(0, 6, 0, 9, 12);
    DUE.is("by low, by high", Due.judge(span, 0, 6, 1, 17, 15), 3);
    judged(span, 0, 780, 2 * 144 + 30, 1440, 1);
    DUE.is("the greatest in the middle", Due.judge(span, 0, 6, 15, 6, 18), 3);
    judged(span, 0, 0, 0, 2160, 1);
  }

  private static void sums() {
    DUE.by("won (WORK of out ACTS by low), spent (of in ACTS, without its sign)");
    KitePower x = Due.kite("loss 1500;reel 0;");
    DUE.is("won below 0, spent of loss alone", Due.judge(x, 0, 0, 1, 2), 2);
    judged(x, 0, -500, 1500, 1000, 1);
    DUE.is("to hold is neither", Due.judge(x, 0, 0, 0, 6, 3, 15), 4);
    judged(x, 0, 0, 0, 1500, 1);
    KitePower none = Due.kite("reel 0;");
    DUE.is("nothing spent", Due.judge(none, 0, 0, 1, 2), 2);
    judged(none, 0, 1000, 0, 1000, 1);
  }

  private static void judgeRange() {
    DUE.by("RANGE: no such STATE, hour; NONE: it is none");
    KitePower x = new KitePower();
    Due.judge(x, 7, 0, 0);
    int[][] wrong = {{-1, 0}, {120, 0}, {LEAST, 0}, {MOST, 0}, {0, -1}, {0, 24}, {0, LEAST}, {0, MOST}};
    for (int[] w : wrong) {
      DUE.is("judge(" + w[0] + ", " + w[1] + ")", Due.judge(x, w[0], w[1], 1), RANGE);
      DUE.is("count(7)", x.count(7), 0);
      DUE.is("judge(" + w[0] + ", " + w[1] + ") of no ROW", x.judge(w[0], w[1]), RANGE);
    }
    judged(x, 7, 0, 0, 1000, 1);
    DUE.is("judge(119, 23)", Due.judge(x, 119, 23, 0), 1);
  }

  private static void judgedOthers() {
    DUE.by("Of the latest judge() that told a number .. NONE for others, and ahead of any");
    KitePower x = new KitePower();
    judged(x, NONE, NONE, NONE, NONE, NONE, NONE);
    DUE.is("no ROW", x.judge(0, 0), NONE);
    DUE.is("no STATE", Due.judge(x, 120, 0, 0), RANGE);
    judged(x, NONE, NONE, NONE, NONE, NONE);
    DUE.is("0 is a number", Due.judge(x, 3, 0, 12), 0);
    judged(x, 3, 0, 0, 0, 0, NONE);
    DUE.is("a LOOP", Due.judge(x, 3, 0, 1, 17), 2);
    DUE.is("no ROW", Due.judge(x, 0, 0, 30), NONE);
    judged(x, 3, 1000, 200, 1000, 1, NONE);
    for (int what : new int[] {-1, 5, 10, LEAST, MOST}) {
      DUE.is("judged(" + what + ")", x.judged(what), NONE);
    }
    Due.tape(x, "").kite();
    judged(x, 3, 1000, 200, 1000, 1, NONE);
  }

  private static void keepRefused() {
    DUE.by("RANGE; STATE: none was (since the latest kite()), or it is no LOOP");
    KitePower x = new KitePower();
    for (int slot : new int[] {-1, 6, LEAST, MOST}) {
      DUE.is("keep(" + slot + ") ahead of any", x.keep(slot), RANGE);
    }
    DUE.is("none was JUDGED", x.keep(0), STATE);
    DUE.is("no ROW", x.judge(0, 0), NONE);
    DUE.is("keep(0)", x.keep(0), STATE);
    Due.judge(x, 0, 0, 1, 17);
    DUE.is("a LOOP", x.keep(5), 2);
    for (int slot : new int[] {-1, 6, LEAST, MOST}) {
      DUE.is("keep(" + slot + ")", x.keep(slot), RANGE);
    }
    int[][] none = {{1}, {12}, {1, 17, 3}, {1, 17, 12, 1}, {1, 17, 1}};
    for (int[] row : none) {
      Due.judge(x, 0, 0, row);
      DUE.is("no LOOP", x.keep(5), STATE);
      DUE.is("count(15)", x.count(15), 2);
    }
    Due.judge(x, 0, 0, 0);
    Due.tape(x, "").kite();
    DUE.is("behind kite()", x.keep(5), STATE);
    DUE.is("slot 6 behind kite()", x.keep(6), RANGE);
    DUE.is("count(15)", x.count(15), 0);
    Due.judge(x, 0, 0, 0);
    DUE.is("JUDGED since", x.keep(5), 1);
  }

  private static void keptSlots() {
    DUE.by("It is KEPT in a slot 0 .. 5, if all are SAFE and it is a LOOP");
    KitePower x = new KitePower();
    for (int slot = 0; slot < 6; slot++) {
      Due.judge(x, slot, 0, new int[slot + 1]);
      DUE.is("keep(" + slot + ")", x.keep(slot), slot + 1);
    }
    for (int slot = 0; slot < 6; slot++) {
      DUE.is("count(" + (10 + slot) + ")", x.count(10 + slot), slot + 1);
    }
    DUE.is("the latest again", x.keep(0), 6);
    DUE.is("count(10)", x.count(10), 6);
    Due.windsAll(x, 0, 0, 0);
    DUE.is("as it was JUDGED", x.keep(1), 6);
    Due.judge(x, 0, 0, 0);
    DUE.is("no more SAFE", x.keep(1), STATE);
    DUE.is("count(11)", x.count(11), 6);
    DUE.is("apart of slots 2 and 3 as they were", x.apart(2, 0, 3, 0, 0), 1);
  }

  // ---- rules flown

  private static int act(KitePower x, int s, boolean byHigh) {
    x.fly(s, 0, 1, 1, byHigh);
    return x.flown(10);
  }

  private static void firstLine() {
    DUE.by("the first line all of whose CONDS hold tells the ACT");
    KitePower x = new KitePower();
    Due.rules(x, "when column is 1 and row is 1 and rope is 1 do 0 up out;"
        + "when column is 1 and row is 1 do 0 right hold;when column is 1 do 1 left in;"
        + "when column is 1 do 1 down out;");
    DUE.is("all of three", act(x, 1 + 5 * (1 + 4 * 1), true), 10);
    DUE.is("the third does not hold", act(x, 1 + 5 * (1 + 4 * 2), true), 6);
    DUE.is("the second does not hold", act(x, 1 + 5 * (2 + 4 * 1), true), 20);
    DUE.is("the first does not hold", act(x, 2 + 5 * (1 + 4 * 1), true), 0);
    StringBuilder eight = new StringBuilder();
    for (int i = 0; i < 7; i++) {
      eight.append("when row above 3 do 0 up in;");
    }
    Due.rules(x, eight + "when row below 4 do 1 stay out;");
    DUE.is("the eighth", act(x, 0, true), 16);
  }

  private static void cond(String cond, int... holds) {
    KitePower x = Due.kite("weight 0;window 90 100;");
    x.wind(0, 0, 0, 9, 11);
    Due.rules(x, "when " + cond + " do 1 stay hold;");
    // the STATE with COLUMN 2, ROW 3, ROPE 1: HEIGHT 40, in BAND 1; that with 0, 1, 2: HEIGHT 30
    int[] states = {2 + 5 * (3 + 4 * 1), 5 * (1 + 4 * 2), 5 * (1 + 4 * 2)};
    for (int i = 0; i < holds.length; i++) {
      DUE.is("when " + cond + ", " + i, act(x, states[i], i == 1), holds[i] == 1 ? 15 : 0);
    }
  }

  private static void condEdges() {
    DUE.by("(pull: the PULL of SLANT 0 and stay there; height, rope, column, row: of the STATE)");
    String[] names = {"height", "rope", "column", "row"};
    int[][] values = {{40, 30}, {1, 2}, {2, 0}, {3, 1}};
    for (int i = 0; i < names.length; i++) {
      for (int k = 0; k < 2; k++) {
        int v = values[i][k];
        int other = values[i][1 - k];
        int[] above = {0, 0};
        int[] below = {0, 0};
        int[] is = {0, 0};
        above[1 - k] = other > v ? 1 : 0;
        below[1 - k] = other < v ? 1 : 0;
        is[k] = 1;
        cond(names[i] + " above " + v, above);
        cond(names[i] + " below " + v, below);
        cond(names[i] + " is " + v, is);
      }
    }
    // by 10 in BAND 1: 1000; by 11 and by 9 in BAND 0, COLUMN 0: 1089 and 729
    cond("pull above 999", 1, 1, 0);
    cond("pull above 1000", 0, 1, 0);
    cond("pull above 1089", 0, 0, 0);
    cond("pull above 1088", 0, 1, 0);
    cond("pull above 728", 1, 1, 1);
    cond("pull below 1000", 0, 0, 1);
    cond("pull below 1001", 1, 0, 1);
    cond("pull below 729", 0, 0, 0);
    cond("pull below 730", 0, 0, 1);
    cond("pull is 729", 0, 0, 1);
    cond("pull is 1000", 1, 0, 0);
    cond("pull is 1089", 0, 1, 0);
    cond("row above 99999", 0, 0, 0);
    cond("row below 0", 0, 0, 0);
    cond("height below 99999", 1, 1, 1);
  }

  private static void withoutALine() {
    DUE.by("without one: SLANT 0, stay, hold");
    KitePower x = new KitePower();
    DUE.is("no RULES", act(x, 77, true), 0);
    DUE.is("flown(2)", x.flown(2), 77);
    Due.rules(x, "when row is 0 and row is 1 do 1 up out;");
    DUE.is("none that holds", act(x, 77, false), 0);
    DUE.is("flown(1)", x.flown(1), 0);
    KitePower heavy = Due.kite("weight 500;lift 1 50;");
    DUE.is("SLANT 0 does not bear it", heavy.fly(0, 0, 9, 1, true), 0);
    DUE.is("flown(0)", heavy.flown(0), 1);
  }

  private static void wall(String move, String drum, int s, int want) {
    KitePower x = Due.kite("across 3;high 3;rope 3;weight 0;");
    Due.rules(x, "when row above 0 do 1 " + move + " " + drum + ";when row is 0 do 1 " + move + " "
        + drum + ";");
    DUE.is(move + " " + drum + " from " + s, act(x, s, true), want);
    DUE.is("flown(2)", x.flown(2), x.leads(s, want));
  }

  private static void walls() {
    DUE.by("If it would leave the STATES by MOVE, it stays instead; by DRUM: it holds instead");
    String[] moves = {"stay", "left", "right", "up", "down"};
    String[] drums = {"hold", "out", "in"};
    for (int corner = 0; corner < 27; corner++) {
      int column = corner % 3;
      int row = corner / 3 % 3;
      int rope = corner / 9;
      for (int move = 0; move < 5; move++) {
        for (int drum = 0; drum < 3; drum++) {
          boolean stays = move == 1 && column == 0 || move == 2 && column == 2
              || move == 3 && row == 2 || move == 4 && row == 0;
          boolean holds = drum == 1 && rope == 2 || drum == 2 && rope == 0;
          wall(moves[move], drums[drum], corner, 15 + (stays ? 0 : 3 * move) + (holds ? 0 : drum));
        }
      }
    }
    KitePower x = Due.kite("mark 1200;");
    Due.rules(x, "when column is 0 do 0 left out;when column is 4 do 0 left hold;");
    DUE.is("no cross at the wall", x.fly(0, 0, 2, 1, true), 2);
    DUE.is("flown(1)", x.flown(1), 2000);
    DUE.is("away from it", x.fly(4, 0, 2, 1, true), 0);
    DUE.is("flown(0)", x.flown(0), 2);
  }

  private static void fate(String kite, int hour, boolean byHigh, int ticks, int want) {
    KitePower x = Due.kite(kite);
    x.wind(0, 1, 0, 5, 20);
    DUE.is("fly at hour " + hour + " with " + kite, x.fly(0, hour, 1, 1, byHigh), ticks);
    DUE.is("flown(0)", x.flown(0), want);
  }

  private static void fallenOrBroken() {
    DUE.by("PULL by that wind: below weight: it has FALLEN; above mark: it is BROKEN");
    fate("weight 1000;", 0, true, 1, 0);
    fate("weight 1001;", 0, true, 0, 1);
    fate("mark 1000;", 0, true, 1, 0);
    fate("mark 999;", 0, true, 0, 2);
    fate("weight 1001;mark 999;", 0, true, 0, 1);
    fate("weight 1000;mark 999;", 0, true, 0, 2);
    fate("weight 250;", 1, false, 1, 0);
    fate("weight 251;", 1, false, 0, 1);
    fate("weight 251;", 1, true, 1, 0);
    fate("mark 4000;", 1, true, 1, 0);
    fate("mark 3999;", 1, true, 0, 2);
    fate("mark 3999;", 1, false, 1, 0);
    fate("weight 0;window 0;", 1, false, 1, 0);
  }

  private static void withoutThisTick() {
    DUE.by("both end it, without this tick's WORK / how many ticks were done");
    for (int i = 0; i < 2; i++) {
      KitePower x = Due.kite("across 2;high 2;rope 8;unit 40;mark 3000;");
      int band = i == 0 ? 3 : 60;
      Due.rules(x, "when row is 1 do 0 stay out;");
      x.wind(0, 0, 3, band, band);
      // HEIGHTS 40, 80, 120 of row 1: BAND 3 at rope 2
      DUE.is("ended at the third tick", x.fly(2, 0, 9, 60, true), 2);
      DUE.is("flown(0)", x.flown(0), 1 + i);
      DUE.is("flown(1)", x.flown(1), 2000);
      DUE.is("flown(2)", x.flown(2), 10);
      DUE.is("flown(11)", x.flown(11), 1);
      DUE.is("flown(12)", x.flown(12), NOTHING);
      DUE.is("the time is over ahead of it", x.fly(2, 0, 2, 60, true), 2);
      DUE.is("flown(0)", x.flown(0), 0);
      DUE.is("flown(2)", x.flown(2), 10);
      DUE.is("three ticks", x.fly(2, 0, 3, 60, true), 2);
      DUE.is("flown(0)", x.flown(0), 1 + i);
      DUE.is("at once", x.fly(10, 0, 3, 60, true), 0);
      DUE.is("flown(1)", x.flown(1), 0);
      DUE.is("flown(2)", x.flown(2), 10);
      DUE.is("flown(10)", x.flown(10), NOTHING);
    }
  }

  private static void flyRange() {
    DUE.by("RANGE: no such STATE, hour, ticks, ticks an hour (1 .. 500), (1 .. 60)");
    KitePower x = new KitePower();
    x.fly(5, 0, 2, 1, true);
    int[][] wrong = {{-1, 0, 1, 1}, {120, 0, 1, 1}, {LEAST, 0, 1, 1}, {MOST, 0, 1, 1}, {0, -1, 1, 1},
        {0, 24, 1, 1}, {0, LEAST, 1, 1}, {0, MOST, 1, 1}, {0, 0, 0, 1}, {0, 0, -1, 1},
        {0, 0, 501, 1}, {0, 0, LEAST, 1}, {0, 0, MOST, 1}, {0, 0, 1, 0}, {0, 0, 1, -1},
        {0, 0, 1, 61}, {0, 0, 1, LEAST}, {0, 0, 1, MOST}};
    for (int[] w : wrong) {
      DUE.is("fly", x.fly(w[0], w[1], w[2], w[3], true), RANGE);
      DUE.is("fly", x.fly(w[0], w[1], w[2], w[3], false), RANGE);
    }
    DUE.is("flown(2) of the latest that was not RANGE", x.flown(2), 5);
    DUE.is("flown(11)", x.flown(11), 0);
    int[][] right = {{0, 0, 1, 1}, {119, 23, 500, 60}, {119, 23, 500, 1}, {0, 23, 1, 60}};
    for (int[] r : right) {
      DUE.is("fly", x.fly(r[0], r[1], r[2], r[3], true), r[2]);
    }
  }

  private static void hoursGoRound() {
    DUE.by("so many ticks an hour (1 .. 60; hours go round)");
    int[][] all = {{0, 1, 5}, {0, 60, 300}, {0, 2, 10}, {5, 1, 0}, {6, 1, 23}, {6, 20, 460}, {23, 1, 6},
        {23, 60, 360}, {4, 60, 60}, {4, 7, 7}, {6, 60, 500}, {6, 22, 500}, {6, 21, 483}};
    for (int[] a : all) {
      KitePower x = new KitePower();
      x.wind(0, 5, 0, 0, 0);
      DUE.is("from hour " + a[0] + " on, " + a[1] + " an hour", x.fly(0, a[0], 500, a[1], true), a[2]);
      DUE.is("flown(0)", x.flown(0), a[2] < 500 ? 1 : 0);
    }
    KitePower x = new KitePower();
    DUE.is("20 days", x.fly(0, 23, 500, 1, true), 500);
  }

  private static void flownOthers() {
    DUE.by("10 + i: the ACT of tick i (as it was done). -100000000 for others, and ahead of any (for "
        + "acts: also behind the first 500)");
    KitePower x = new KitePower();
    for (int what : new int[] {0, 1, 2, 10, -1}) {
      DUE.is("flown(" + what + ") ahead of any", x.flown(what), NOTHING);
    }
    DUE.is("fly", x.fly(120, 0, 1, 1, true), RANGE);
    DUE.is("flown(0) behind RANGE alone", x.flown(0), NOTHING);
    Due.rules(x, "when rope is 0 do 1 left out;when rope above 0 do 1 right in;");
    DUE.is("fly", x.fly(4, 0, 500, 60, true), 500);
    DUE.is("flown(10)", x.flown(10), 19);
    DUE.is("flown(11)", x.flown(11), 23);
    DUE.is("flown(508)", x.flown(508), 19);
    DUE.is("flown(509)", x.flown(509), 23);
    for (int what : new int[] {-1, 3, 4, 9, 510, 511, 1010, LEAST, MOST}) {
      DUE.is("flown(" + what + ")", x.flown(what), NOTHING);
    }
    DUE.is("one tick", x.fly(4, 0, 1, 60, true), 1);
    DUE.is("flown(11) of the longer one before", x.flown(11), NOTHING);
  }

  // ---- held

  /**
   * A way through nearly all STATES: up in COLUMNS 0, 2, 4, down in 1, 3, 5, back along ROW 0, then
   * the next ROPE; till the one HEIGHT of BAND 4, where it ends. (The window tells odd COLUMNS.)
   */
  private static KitePower longWay(int low, int high) {
    KitePower x = Due.kite("across 6;high 6;rope 8;mark 3000;window 50 100 50 100 50 100;");
    Due.rules(x, "when row is 0 and column above 0 do 0 left hold;when row is 0 do 0 up out;"
        + "when pull is 500 and row below 5 do 0 up hold;when pull is 500 do 0 right hold;"
        + "when column is 5 do 0 down hold;when row above 1 do 0 down hold;"
        + "when row is 1 do 0 right hold;");
    for (int hour = 0; hour < 9; hour++) {
      x.wind(0, hour, 4, low, high);
    }
    return x;
  }

  private static void held200() {
    DUE.by("HELD at an hour: from how many STATES it is neither FALLEN nor BROKEN in 200 ticks");
    KitePower x = longWay(0, 10);
    DUE.is("told(11)", x.told(11), 7);
    DUE.is("ends at once", x.fly(282, 0, 500, 60, false), 0);
    DUE.is("199 ticks are done, the 200th is not", x.fly(52, 0, 500, 60, false), 199);
    DUE.is("FALLEN", x.flown(0), 1);
    DUE.is("200 ticks are done, the 201st is not", x.fly(46, 0, 500, 60, false), 200);
    DUE.is("FALLEN", x.flown(0), 1);
    DUE.is("the longest", x.fly(6, 0, 500, 60, false), 256);
    // from 288 STATES: 36 at the last ROPE end soon; the others in 5 .. 256 ticks, each in its own
    DUE.is("held(0)", x.held(0), 57);
    int done = 0;
    for (int s = 0; s < 288; s++) {
      done += x.fly(s, 0, 200, 60, false) == 200 ? 1 : 0;
    }
    DUE.is("that fly 200 ticks", done, 57);
    DUE.is("by high", longWay(10, 60).held(0), 57);
    DUE.is("BROKEN", longWay(60, 60).held(0), 57);
    DUE.is("neither", longWay(10, 10).held(0), 288);
  }

  private static void heldHours() {
    DUE.by("in 200 ticks all at that hour, by low as by high");
    KitePower x = new KitePower();
    for (int hour = 0; hour < 24; hour++) {
      if (hour != 7) {
        Due.windsAll(x, hour, 0, 0);
      }
    }
    DUE.is("held(7)", x.held(7), 120);
    DUE.is("held(6)", x.held(6), 0);
    DUE.is("held(8)", x.held(8), 0);
    for (int hour : new int[] {-1, 24, LEAST, MOST}) {
      DUE.is("held(" + hour + ")", x.held(hour), RANGE);
    }
    x.wind(0, 7, 3, 0, 10);
    DUE.is("FALLEN by low alone", x.held(7), 115);
    x.wind(0, 7, 3, 10, 60);
    DUE.is("BROKEN by high alone", x.held(7), 115);
    x.wind(0, 7, 3, 0, 60);
    DUE.is("both", x.held(7), 115);
    x.wind(0, 7, 3, 10, 10);
    x.wind(0, 7, 0, 0, 10);
    x.wind(0, 7, 1, 10, 60);
    DUE.is("some by low, some by high", x.held(7), above(x, 1));
    Due.rules(x, "when rope is 5 do 1 stay out;");
    x.wind(0, 7, 0, 10, 10);
    x.wind(0, 7, 1, 10, 10);
    x.wind(0, 7, 2, 7, 7);
    x.wind(0, 7, 3, 7, 7);
    // at rope 5 ROW 2 is in BAND 2, ROW 3 in BAND 3
    DUE.is("too little by SLANT 1 in BANDS 2 and 3", x.held(7), 120 - 10);
    Due.tape(x, "").kite();
    DUE.is("no RULES", x.held(7), 120);
  }

  private static int above(KitePower x, int band) {
    int count = 0;
    for (int s = 0; s < x.count(0); s++) {
      count += x.state(s, 4) > band ? 1 : 0;
    }
    return count;
  }

  // ---- ropes that tire

  private static void tired() {
    DUE.by("TIRED (told, 0 .. 1000000) / what it was; RANGE");
    KitePower x = new KitePower();
    int[][] all = {{-1, RANGE}, {1000001, RANGE}, {LEAST, RANGE}, {MOST, RANGE}, {0, 0}, {1000000, 0},
        {1000001, RANGE}, {-1, RANGE}, {1, 1000000}, {0, 1}};
    for (int[] a : all) {
      DUE.is("tired(" + a[0] + ")", x.tired(a[0]), a[1]);
    }
    x.tired(77);
    x.tired(-5);
    DUE.is("count(6)", x.count(6), 77);
    Due.tape(x, "").kite();
    DUE.is("it stays behind kite()", x.count(6), 77);
  }

  private static void tireEdges() {
    DUE.by("an ACT tires the rope by what its PULL by high is above tire, over 100 (cut; not below 0)");
    int[][] all = {{99999, 0}, {1001, 0}, {1000, 0}, {999, 0}, {901, 0}, {900, 1}, {801, 1}, {800, 2},
        {1, 9}, {0, 10}};
    for (int[] a : all) {
      KitePower x = Due.kite("tire " + a[0] + ";");
      Due.keep(x, 0, 0, 0);
      Due.keep(x, 1, 0, 0, 0, 0);
      DUE.is("tire " + a[0], x.rounds(0, 0, 1000), a[1] == 0 ? 100000 : 1000 / a[1]);
      DUE.is("three times, each cut", x.rounds(1, 0, 1000), a[1] == 0 ? 100000 : 1000 / (3 * a[1]));
    }
    KitePower span = Due.kite("tire 900;");
    Due.keep(span, 0, 0, 0);
    span.wind(0, 4, 0, 0, 11);
    span.wind(0, 5, 0, 0, 9);
    DUE.is("by high: 310 above", span.rounds(0, 4, 10), 3);
    DUE.is("by high: below it", span.rounds(0, 5, 10), 100000);
    Due.keep(span, 1, 1, 3, 6);
    DUE.is("across: 600 above each", span.rounds(1, 0, 24), 2);
    DUE.is("not SAFE at that hour: 915 above each", span.rounds(1, 4, 35), 1);
    DUE.is("not SAFE at that hour: 915 above each", span.rounds(1, 4, 36), 2);
  }

  private static void roundsEdges() {
    DUE.by("how many whole LOOPS until what they tired, and TIRED, would be above a bound (100000 at "
        + "most)");
    KitePower x = Due.kite("tire 900;");
    Due.keep(x, 0, 0, 0);
    Due.keep(x, 1, 0, 0, 0, 0);
    Due.keep(x, 2, 0, 15);
    // TIRED, slot, bound, rounds: slot 0 tires by 1, slot 1 by 3, slot 2 by 0
    int[][] all = {{0, 0, 0, 0}, {0, 0, 1, 1}, {0, 0, 99999, 99999}, {0, 0, 100000, 100000},
        {0, 0, 100001, 100000}, {0, 0, 1000000, 100000}, {0, 1, 2, 0}, {0, 1, 3, 1}, {0, 1, 5, 1},
        {0, 1, 6, 2}, {0, 1, 299999, 99999}, {0, 1, 300000, 100000}, {0, 1, 300003, 100000},
        {0, 2, 0, 100000}, {0, 2, 1000000, 100000}, {7, 0, 7, 0}, {7, 0, 8, 1}, {7, 0, 6, 0},
        {7, 1, 9, 0}, {7, 1, 10, 1}, {7, 1, 12, 1}, {7, 2, 7, 100000}, {7, 2, 6, 0}, {7, 2, 0, 0},
        {1000000, 0, 1000000, 0}, {1000000, 2, 1000000, 100000}, {1000000, 2, 999999, 0},
        {1000000, 0, 0, 0}, {900000, 0, 1000000, 100000}, {900001, 0, 1000000, 99999}};
    for (int[] a : all) {
      x.tired(a[0]);
      DUE.is("rounds(" + a[1] + ", 0, " + a[2] + ") with TIRED " + a[0], x.rounds(a[1], 0, a[2]), a[3]);
    }
    DUE.is("rounds() tire nothing", x.count(6), 900001);
  }

  private static void roundsRange() {
    DUE.by("ROUNDS of a KEPT LOOP at an hour to a bound (0 .. 1000000); RANGE; STATE: none is KEPT "
        + "there");
    KitePower x = new KitePower();
    int[][] wrong = {{-1, 0, 0}, {6, 0, 0}, {LEAST, 0, 0}, {MOST, 0, 0}, {0, -1, 0}, {0, 24, 0},
        {0, LEAST, 0}, {0, MOST, 0}, {0, 0, -1}, {0, 0, 1000001}, {0, 0, LEAST}, {0, 0, MOST}};
    for (int i = 0; i < 2; i++) {
      for (int[] w : wrong) {
        DUE.is("rounds(" + w[0] + ", " + w[1] + ", " + w[2] + ")", x.rounds(w[0], w[1], w[2]), RANGE);
      }
      Due.keep(x, 0, 0, 0);
    }
    DUE.is("slot 0", x.rounds(0, 23, 0), 100000);
    for (int slot = 1; slot < 6; slot++) {
      DUE.is("slot " + slot, x.rounds(slot, 0, 0), STATE);
    }
    Due.tape(x, "").kite();
    DUE.is("slot 0 behind kite()", x.rounds(0, 0, 0), STATE);
  }
}
