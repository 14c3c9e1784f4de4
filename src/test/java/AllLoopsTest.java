import java.util.ArrayList;
import java.util.List;

/**
 * "The loop that surely gives most in the mean, and no loop can give more": of the least KITE (8
 * STATES) all LOOPS that pass no STATE twice are looked through, by what leads, safe and gives tell.
 */
public final class AllLoopsTest {
  private static final Due DUE = new Due("AllLoopsTest");
  private static final int STATES = 8;
  private static final String SMALL = "across 2;high 2;rope 2;";
  private static final int[][] SPANS = {{13, 14}, {23, 25}, {12, 14}, {19, 21}, {6, 6}, {0, 0}, {7, 7},
      {10, 10}, {3, 30}, {17, 18}, {1, 60}};

  private final String text;
  private final int[][] spans;
  /** From a STATE to another: the ACT (NONE: none is SAFE) that gives most, and what. */
  private final int[][] acts = new int[STATES][STATES];
  private final int[][] gains = new int[STATES][STATES];
  private final List<Integer> row = new ArrayList<>();
  private final boolean[] passed = new boolean[STATES];
  private int start;
  private List<Integer> bestRow;
  private long bestSum;
  private int bestStart;

  private AllLoopsTest(String text, int[]... spans) {
    this.text = SMALL + text;
    this.spans = spans;
  }

  public static void main(String[] args) {
    throughAllStates();
    manyWinds();
    manyHours();
    DUE.end();
  }

  /** A house of its own for each STATE: none is asked more than 512 times. */
  private KitePower house() {
    KitePower x = Due.kite(text);
    for (int band = 0; band < spans.length; band++) {
      x.wind(0, 0, band, spans[band][0], spans[band][1]);
    }
    return x;
  }

  private void find() {
    for (int s = 0; s < STATES; s++) {
      drawActs(s, house());
    }
    for (start = 0; start < STATES; start++) {
      goOn(start, 0);
    }
  }

  private void drawActs(int s, KitePower x) {
    java.util.Arrays.fill(acts[s], KitePower.NONE);
    for (int act = 0; act < 15 * x.told(10); act++) {
      if (x.safe(s, act, 0) == 1) {
        int next = x.leads(s, act);
        int gain = x.gives(s, act, 0);
        if (acts[s][next] == KitePower.NONE || gain > gains[s][next]) {
          acts[s][next] = act;
          gains[s][next] = gain;
        }
      }
    }
  }

  private void goOn(int s, long sum) {
    passed[s] = true;
    for (int next = 0; next < STATES; next++) {
      if (acts[s][next] != KitePower.NONE) {
        row.add(acts[s][next]);
        if (next == start) {
          take(sum + gains[s][next]);
        } else if (!passed[next]) {
          goOn(next, sum + gains[s][next]);
        }
        row.remove(row.size() - 1);
      }
    }
    passed[s] = false;
  }

  private void take(long sum) {
    if (bestRow == null || isBetter(sum)) {
      bestRow = new ArrayList<>(row);
      bestSum = sum;
      bestStart = start;
    }
  }

  private boolean isBetter(long sum) {
    long more = sum * bestRow.size() - bestSum * row.size();
    if (more != 0) {
      return more > 0;
    }
    if (row.size() != bestRow.size()) {
      return row.size() < bestRow.size();
    }
    for (int i = 0; i < row.size() && start == bestStart; i++) {
      if (!row.get(i).equals(bestRow.get(i))) {
        return row.get(i) < bestRow.get(i);
      }
    }
    return false;
  }

  private int look() {
    return look(house(), 0);
  }

  private int look(KitePower x, int hour) {
    find();
    String call = " at hour " + hour + " of " + text;
    if (bestRow == null) {
      DUE.is("best()" + call, x.best(hour), KitePower.NONE);
      return 0;
    }
    DUE.is("best()" + call, x.best(hour), bestRow.size());
    DUE.is("looped(0)" + call, x.looped(0), (int) bestSum);
    DUE.is("looped(1)" + call, x.looped(1), bestStart);
    for (int i = 0; i < bestRow.size(); i++) {
      DUE.is("looped(" + (10 + i) + ")" + call, x.looped(10 + i), bestRow.get(i));
    }
    return bestRow.size();
  }

  private static void throughAllStates() {
    DUE.by("BEST LOOP: the greatest MEAN: one through each of the STATES there are");
    AllLoopsTest all = new AllLoopsTest("unit 42;lift 1 9;cross 297;reel 86;mark 8214;weight 882;"
        + "window 26 63;", SPANS[0], SPANS[1], SPANS[2]);
    DUE.is("of all LOOPS the best", all.look(), STATES);
    DUE.is("its sum", (int) all.bestSum, 6088);
    DUE.is("its row", all.bestRow.equals(List.of(21, 19, 26, 22, 18, 23, 28, 5)) ? 1 : 0, 1);
  }

  private static void manyWinds() {
    DUE.by("the loop that surely gives most in the mean, and no loop can give more");
    String[] texts = {"unit 42;lift 1 9;cross 297;reel 86;mark 8214;weight 882;window 26 63;",
        "unit 50;weight 0;window 100 40;", "unit 50;lift 9;cross 100;weight 300;reel 150;loss 20;",
        "unit 30;lift 5 2 6;reel 400;cross 400;weight 100;mark 9000;window 60 61;",
        "unit 50;lift 3 3;cross 100;reel 100;weight 0;", "unit 48;lift 4;loss 9999;mark 2000;"};
    int[] lengths = new int[STATES + 1];
    for (String text : texts) {
      for (int i = 0; i < SPANS.length; i++) {
        for (int k = 0; k < SPANS.length; k++) {
          int[] third = SPANS[(3 * i + 5 * k) % SPANS.length];
          lengths[new AllLoopsTest(text, SPANS[i], SPANS[k], third).look()]++;
        }
      }
    }
    for (int length = 0; length <= 6; length++) {
      DUE.is("there is one of " + length + " ACTS", lengths[length] > 0 ? 1 : 0, 1);
    }
  }

  private static void manyHours() {
    DUE.by("BEST LOOP at an hour: each by its own winds, whatever was looked for before");
    String text = "unit 42;lift 1 9;cross 297;reel 86;mark 8214;weight 882;window 26 63;";
    for (int from = 0; from < SPANS.length; from++) {
      KitePower x = Due.kite(SMALL + text);
      int[][][] all = new int[24][][];
      for (int hour = 0; hour < 24; hour++) {
        all[hour] = new int[][] {SPANS[(from + hour) % SPANS.length],
            SPANS[(3 * hour + from * from) % SPANS.length], SPANS[5 * hour % SPANS.length]};
        for (int band = 0; band < 3; band++) {
          x.wind(0, hour, band, all[hour][band][0], all[hour][band][1]);
        }
      }
      for (int hour = 0; hour < 24; hour++) {
        new AllLoopsTest(text, all[hour]).look(x, hour);
      }
    }
  }
}
