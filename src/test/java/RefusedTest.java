/** A call that is refused changes nothing: all that can be asked is asked ahead of it and behind it. */
public final class RefusedTest {
  private static final Due DUE = new Due("RefusedTest");
  private static final int NONE = KitePower.NONE;
  private static final int RANGE = KitePower.RANGE;
  private static final int FULL = KitePower.FULL;
  private static final int STATE = KitePower.STATE;
  private static final int[] NOT_0_TO_23 = {-1, 24, Integer.MIN_VALUE, Integer.MAX_VALUE};

  private interface Call {
    int on(KitePower x);
  }

  public static void main(String[] args) {
    range();
    full();
    state();
    textsWithAFault();
    rowsThatAreNone();
    DUE.end();
  }

  /** A house in which each thing has been told once or more. */
  private static KitePower house() {
    KitePower x = Due.kite("across 3;high 2;rope 4;unit 50;lift 10 2 3;tire 500;");
    x.wind(4, 1, 0, 8, 12);
    x.wind(5, 2, 0, 0, 0);
    Due.rules(x, "when rope is 0 do 1 right out;when pull above 0 do 2 stay in;");
    Due.keep(x, 0, 0, 1, 17);
    Due.keep(x, 2, 1, 0);
    x.stand(3, 0);
    x.stand(4, 0);
    x.field();
    x.law(3, 5, 70);
    x.tired(12);
    x.hidden(8);
    x.read(6, 0, 0, 0, 0, 900);
    x.right(7, 0, 40, 900);
    x.best(0);
    Due.judge(x, 0, 1, 1, 17, 1);
    x.fly(0, 0, 7, 2, true);
    x.plan(2, 4, 5, 1, 1, 1);
    Due.tape(x, "when row is 0 do 0 up");
    return x;
  }

  /** What the house answers: some 150 calls. */
  private static String print(KitePower x) {
    StringBuilder all = new StringBuilder();
    for (int what = 0; what <= 15; what++) {
      all.append(" c").append(x.count(what));
    }
    for (int what = 0; what < 36; what += what == 11 ? 9 : what == 22 ? 8 : 1) {
      all.append(" t").append(x.told(what));
    }
    for (int what = 0; what < 19; what += what == 1 ? 9 : 1) {
      all.append(" l").append(x.looped(what));
      all.append(" f").append(x.flown(what));
    }
    for (int what = 0; what < 5; what++) {
      all.append(" j").append(x.judged(what));
      all.append(" w").append(x.winds(what, 0, 999));
    }
    for (int hour = 0; hour < 7; hour++) {
      all.append(" p").append(x.planned(hour));
    }
    all.append(" k").append(x.fault(0)).append(' ').append(x.fault(1));
    all.append(" set").append(x.fielded()).append(" fit").append(x.fit(999)).append(' ');
    all.append(x.fit(6)).append(" pulls").append(x.pulls(0, 0, 0)).append(' ');
    all.append(x.breach(0, 0, 1, 500)).append(' ').append(x.breach(2, 2, 60, 500)).append(' ');
    all.append(x.rounds(0, 1, 1000)).append(' ').append(x.rounds(2, 1, 1000)).append(' ');
    all.append(x.apart(0, 1, 2, 3, 1)).append(' ').append(x.held(0)).append(' ');
    all.append(x.state(7, 3)).append(' ').append(x.next(0, 0));
    return all.toString();
  }

  private static void refused(String call, Call one, int want) {
    refused(call, house(), one, want);
  }

  private static void refused(String call, KitePower x, Call one, int want) {
    String before = print(x);
    DUE.is(call, one.on(x), want);
    String after = print(x);
    DUE.is(call + " leaves all as it was: " + before + " / " + after, before.equals(after) ? 1 : 0, 1);
  }

  private static void range() {
    DUE.by("RANGE = -2: A number that can't be.");
    for (int bad : NOT_0_TO_23) {
      refused("wind", x -> x.wind(9, bad, 0, 1, 1), RANGE);
      refused("wind", x -> x.wind(bad == 24 ? 3 : bad, 0, 0, 1, 1), RANGE);
      refused("winds", x -> x.winds(bad, 0, 0), RANGE);
      refused("pull", x -> x.pull(bad, 0, 0), RANGE);
      refused("safe", x -> x.safe(0, 0, bad), RANGE);
      refused("gives", x -> x.gives(bad, 0, 0), -100000000);
      refused("best", x -> x.best(bad), RANGE);
      refused("keep", x -> x.keep(bad), RANGE);
      refused("fly", x -> x.fly(bad, 0, 1, 1, true), RANGE);
      refused("fly", x -> x.fly(0, bad, 1, 1, true), RANGE);
      refused("fly", x -> x.fly(0, 0, bad == 24 ? 501 : bad, 1, true), RANGE);
      refused("fly", x -> x.fly(0, 0, 1, bad == 24 ? 61 : bad, true), RANGE);
      refused("held", x -> x.held(bad), RANGE);
      refused("tired", x -> x.tired(bad == 24 ? 1000001 : bad), RANGE);
      refused("rounds", x -> x.rounds(0, bad, 0), RANGE);
      refused("plan", x -> x.plan(bad, 3, 1, 0, 0, 0), -2000000000);
      refused("plan", x -> x.plan(3, bad, 1, 0, 0, 0), -2000000000);
      refused("plan", x -> x.plan(3, 2, 1, 0, 0, 0), -2000000000);
      refused("plan", x -> x.plan(0, 3, bad == 24 ? 61 : bad, 0, 0, 0), -2000000000);
      refused("plan", x -> x.plan(0, 3, 1, 0, bad == 24 ? 1000001 : bad, 0), -2000000000);
      refused("apart", x -> x.apart(0, 0, bad, 0, 0), RANGE);
      refused("shift", x -> x.shift(bad, 0, 0, 0), RANGE);
      refused("stand", x -> x.stand(0, bad), RANGE);
      refused("stand", x -> x.stand(bad == 24 ? 41 : bad, 0), RANGE);
      refused("law", x -> x.law(bad, 23, 5), RANGE);
      refused("law", x -> x.law(0, bad, 5), RANGE);
      refused("law", x -> x.law(0, 0, bad == 24 ? 10000 : bad), RANGE);
      refused("breach", x -> x.breach(0, bad, 1, 1), RANGE);
      refused("hidden", x -> x.hidden(bad), RANGE);
      refused("pulls", x -> x.pulls(0, 0, bad), RANGE);
      refused("read", x -> x.read(8, 0, 0, bad, 0, 0), RANGE);
      refused("read", x -> x.read(bad == 24 ? 6 : bad, 0, 0, 0, 0, 0), RANGE);
      refused("right", x -> x.right(8, bad, 0, 0), RANGE);
      refused("right", x -> x.right(8, 0, 0, bad == 24 ? 100000000 : bad), RANGE);
      refused("fit", x -> x.fit(bad == 24 ? 1000 : bad), RANGE);
      refused("next", x -> x.next(0, bad), RANGE);
      refused("end", x -> x.end(bad), NONE);
      refused("leads", x -> x.leads(0, bad == 24 ? 45 : bad), RANGE);
    }
  }

  private static void full() {
    DUE.by("FULL = -3: No room.");
    KitePower tape = house();
    for (int i = 0; i < 38; i++) {
      tape.feed(0, 0, 0, 0, 0);
    }
    refused("feed", tape, x -> x.feed(1, 2, 3, 4, 5), FULL);
    KitePower winds = house();
    for (int i = 2; i < 200; i++) {
      winds.wind(5, 3, 0, 7, 7);
    }
    refused("wind", winds, x -> x.wind(9, 3, 0, 8, 8), FULL);
    KitePower rest = house();
    for (int i = 0; i < 30; i++) {
      rest.stand(5, 0);
      rest.law(6, 6, 9999);
      rest.read(7, 0, 0, 0, 0, 900);
      rest.right(7, 0, 40, 900);
    }
    rest.field();
    refused("stand", rest, x -> x.stand(30, 0), FULL);
    KitePower again = house();
    for (int i = 0; i < 30; i++) {
      again.law(6, 6, 9999);
      again.read(7, 0, 0, 0, 0, 900);
      again.right(7, 0, 40, 900);
    }
    refused("law, read, right", again, x -> x.law(0, 23, 0) == FULL && x.read(9, 0, 0, 0, 0, 0) == FULL
        ? x.right(9, 1, 0, 0) : 0, FULL);
  }

  private static void state() {
    DUE.by("STATE = -4: Not as things are.");
    refused("keep of no LOOP", x -> x.keep(0), STATE);
    refused("rounds", x -> x.rounds(1, 0, 0), STATE);
    refused("apart", x -> x.apart(0, 0, 1, 0, 0), STATE);
    refused("shift", x -> x.shift(1, 0, 0, 0), STATE);
    refused("stand", x -> x.stand(30, 1), STATE);
    refused("breach", x -> x.breach(1, 0, 1, 1), STATE);
    KitePower calm = house();
    for (int band = 1; band < 5; band++) {
      calm.wind(5, 2, band, 0, 0);
    }
    refused("best without a LOOP", calm, x -> x.best(2), NONE);
  }

  /** All but the FAULT and the TAPE stays. */
  private static void textsWithAFault() {
    DUE.by("NONE with a FAULT (it stays) / NONE with a FAULT (they stay)");
    for (String text : new String[] {"across 2", "across 2;high 9;", "lift 1 2 3 4;", "x", "rope 3;rope 3;"}) {
      stays(text, x -> x.kite());
    }
    for (String text : new String[] {"when row is 0 do 0 up in", "when row is 0 do 3 up in;", "x",
        "when row is 0 and row is 0 and row is 0 and row is 0 do 0 up in;",
        "when row is 0 do 0 up in;".repeat(9)}) {
      stays(text, x -> x.rules());
    }
  }

  private static void stays(String text, Call reads) {
    KitePower x = house();
    Due.tape(x, "");
    String before = withoutFault(print(x));
    Due.tape(x, text);
    DUE.is("reading " + text, reads.on(x), NONE);
    String after = withoutFault(print(x));
    DUE.is(text + ": " + before + " / " + after, before.equals(after) ? 1 : 0, 1);
    int[] by = {1, 17};
    DUE.is("what was JUDGED is still there", Due.judge(x, 0, 0, by), 2);
    DUE.is("keep(5)", x.keep(5), 2);
    x.fly(0, 0, 2, 1, true);
    DUE.is("RULES are still there", x.flown(10), 22);
    DUE.is("RULES are still there", x.flown(11), 32);
  }

  private static String withoutFault(String print) {
    int at = print.indexOf(" k");
    return print.substring(0, at) + print.substring(print.indexOf(" set"));
  }

  /** All but the TAPE stays. */
  private static void rowsThatAreNone() {
    DUE.by("RANGE: no such STATE, hour; NONE: it is none");
    KitePower x = house();
    Due.judge(x, 0, 0, 1, 17);
    String before = print(x);
    for (String row : new String[] {"", "]", "/", "0]", "0".repeat(101)}) {
      DUE.is("judge of " + row, Due.tape(x, row).judge(0, 0), NONE);
    }
    for (int bad : NOT_0_TO_23) {
      DUE.is("judge in STATE " + bad, Due.judge(x, bad, 0, 1, 1), RANGE);
      DUE.is("judge at hour " + bad, Due.judge(x, 0, bad, 1, 1), RANGE);
    }
    DUE.is("all stays: " + before, before.equals(print(x)) ? 1 : 0, 1);
    DUE.is("keep(4)", x.keep(4), 2);
  }
}
