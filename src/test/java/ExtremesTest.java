import java.lang.management.ManagementFactory;
import java.util.Random;

/** Any numbers in any state: no call throws, none makes an object, and two houses answer alike. */
public final class ExtremesTest {
  private static final int[] EDGES = {Integer.MIN_VALUE, Integer.MIN_VALUE + 1, -100000000, -2, -1, 0,
      1, 2, 5, 6, 9, 10, 11, 14, 15, 19, 20, 23, 24, 29, 30, 40, 41, 44, 45, 59, 60, 61, 99, 100, 101,
      200, 287, 288, 500, 501, 799, 800, 801, 999, 1000, 5000, 5001, 9999, 10000, 99999, 100000,
      1000000, 1000001, 99999999, 100000000, Integer.MAX_VALUE - 1, Integer.MAX_VALUE};
  private static final String[] TEXTS = {"", "across 2;high 2;rope 2;weight 0;", "across 6;high 6;"
      + "rope 8;unit 50;lift 99 1 5;window 0 100;cross 400;reel 400;loss 9999;mark 99999;weight 0;",
      "weight 9999;mark 1;", "when pull above 0 do 0 left out;when row is 0 do 1 up in;",
      "when column below 3 and rope above 1 and height is 20 do 0 down in;", "07%.", "lift 1 2 3 4;",
      "00000000001111222", "abcdefghijk", "123456", "7411", "\0\u00ff\u0080"};

  private final Random random;
  private final int[] numbers = new int[6];

  private ExtremesTest(long seed) {
    random = new Random(seed);
  }

  public static void main(String[] args) {
    long calls = 0;
    for (int seed = 1; seed <= 400; seed++) {
      long one = new ExtremesTest(seed).run();
      long again = new ExtremesTest(seed).run();
      if (one != again) {
        System.out.println("seed " + seed + ": the same calls, other answers");
        System.exit(1);
      }
      calls += 1024;
    }
    room();
    System.out.println("ExtremesTest: " + calls + " calls, none threw");
  }

  private long run() {
    KitePower x = new KitePower();
    long sum = 0;
    for (int i = 0; i < 512; i++) {
      if (random.nextInt(12) == 0) {
        Due.tape(x, TEXTS[random.nextInt(TEXTS.length)]);
      }
      sum = 31 * sum + call(x, random.nextInt(40));
    }
    return sum;
  }

  private int number() {
    int kind = random.nextInt(8);
    if (kind == 0) {
      return random.nextInt();
    }
    return kind < 3 ? EDGES[random.nextInt(EDGES.length)] : random.nextInt(kind < 6 ? 6 : 30);
  }

  private int call(KitePower x, int which) {
    for (int i = 0; i < numbers.length; i++) {
      numbers[i] = number();
    }
    return call(x, which, numbers);
  }

  private static int call(KitePower x, int which, int[] n) {
    switch (which) {
      case 0: return x.feed(n[0], n[1], n[2], n[3], n[4]);
      case 1: return x.end(n[0]);
      case 2: return x.kite();
      case 3: return x.rules();
      case 4: return x.fault(n[0]);
      case 5: return x.told(n[0]);
      case 6: return x.state(n[0], n[1]);
      case 7: return x.leads(n[0], n[1]);
      case 8: return x.wind(n[0], n[1], n[2], n[3], n[4]);
      case 9: return x.winds(n[0], n[1], n[2]);
      case 10: return x.pull(n[0], n[1], n[2]);
      case 11: return x.safe(n[0], n[1], n[2]);
      case 12: return x.gives(n[0], n[1], n[2]);
      case 13: return x.best(n[0]);
      case 14: return x.looped(n[0]);
      case 15: return x.judge(n[0], n[1]);
      case 16: return x.judged(n[0]);
      case 17: return x.keep(n[0]);
      case 18: return x.fly(n[0], n[1], n[2], n[3], n[4] > 5);
      case 19: return x.flown(n[0]);
      default: return callMore(x, which, n);
    }
  }

  private static int callMore(KitePower x, int which, int[] n) {
    switch (which) {
      case 20: return x.held(n[0]);
      case 21: return x.tired(n[0]);
      case 22: return x.rounds(n[0], n[1], n[2]);
      case 23: return x.plan(n[0], n[1], n[2], n[3], n[4], n[5]);
      case 24: return x.planned(n[0]);
      case 25: return x.apart(n[0], n[1], n[2], n[3], n[4]);
      case 26: return x.shift(n[0], n[1], n[2], n[3]);
      case 27: return x.stand(n[0], n[1]);
      case 28: return x.field();
      case 29: return x.fielded();
      case 30: return x.law(n[0], n[1], n[2]);
      case 31: return x.breach(n[0], n[1], n[2], n[3]);
      case 32: return x.hidden(n[0]);
      case 33: return x.pulls(n[0], n[1], n[2]);
      case 34: return x.read(n[0], n[1], n[2], n[3], n[4], n[5]);
      case 35: return x.right(n[0], n[1], n[2], n[3]);
      case 36: return x.fit(n[0]);
      case 37: return x.next(n[0], n[1]);
      case 38: return x.count(n[0]);
      default: return x.fault(0);
    }
  }

  /** What a house needs is made with it: the calls themselves make nothing. */
  private static void room() {
    com.sun.management.ThreadMXBean threads =
        (com.sun.management.ThreadMXBean) ManagementFactory.getThreadMXBean();
    long id = Thread.currentThread().getId();
    KitePower x = Due.kite(TEXTS[2]);
    int[] n = {0, 0, 3, 3, 3, 3};
    long before = threads.getThreadAllocatedBytes(id);
    for (int i = 0; i < 10; i++) {
      for (int which = 0; which < 40; which++) {
        n[1] = which == 23 ? 23 : 0;
        call(x, which, n);
      }
    }
    long made = threads.getThreadAllocatedBytes(id) - before;
    if (made > 4096) {
      System.out.println("400 calls made " + made + " bytes of objects");
      System.exit(1);
    }
    before = threads.getThreadAllocatedBytes(id);
    new KitePower();
    made = threads.getThreadAllocatedBytes(id) - before;
    if (made > 400000) {
      System.out.println("a new house is " + made + " bytes");
      System.exit(1);
    }
  }
}
