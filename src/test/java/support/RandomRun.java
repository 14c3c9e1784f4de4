import java.util.ArrayList;
import java.util.List;
import java.util.Random;

/** A run of random calls on the class and on the plain house; tells where they part. */
final class RandomRun {
  private static final String[] COND_WORDS = {"pull", "height", "rope", "column", "row"};
  private static final String[] HOW_WORDS = {"above", "below", "is"};
  private static final String[] MOVE_WORDS = {"stay", "left", "right", "up", "down"};
  private static final String[] DRUM_WORDS = {"hold", "out", "in"};

  private final Random random;
  private final int largest;
  private final KitePower house = new KitePower();
  private final PlainHouse plain = new PlainHouse();
  private final List<String> calls = new ArrayList<>();
  private int step = 0;
  private int readStep = 0;
  int wrong = 0;

  /** Which calls a run makes mostly: all, those of fields, of pulls read, of winds and loops. */
  private static final int[][] BENTS = {
      {},
      {7, 17, 20, 21, 21, 22, 22, 27, 28, 28, 31, 31, 32, 32, 33, 33, 34, 35, 36, 36, 43},
      {7, 37, 38, 39, 39, 39, 40, 40, 41, 41, 42, 42, 43},
      {7, 8, 9, 7, 8, 9, 10, 12, 13, 14, 15, 16, 26, 29, 30},
      {1, 1, 7, 23, 24, 25, 26}};

  /** Kites have at most so many states (or the document's 288), since the plain house is slow. */
  RandomRun(long seed, int largest) {
    random = new Random(seed);
    this.largest = largest;
  }

  int run(int most) {
    if (!isSmall()) {
      tellKite();
    }
    int[] bent = BENTS[random.nextInt(BENTS.length)];
    while (calls.size() < most && wrong == 0) {
      boolean any = bent.length == 0 || random.nextInt(60) == 0;
      one(any ? random.nextInt(44) : bent[random.nextInt(bent.length)]);
    }
    return wrong;
  }

  private boolean isSmall() {
    return plain.states() <= largest;
  }

  private void due(String call, int got, int want) {
    calls.add(call + " = " + want);
    if (got != want) {
      wrong++;
      System.out.println(call + " answered " + got + ", due is " + want + ", after:");
      for (String c : calls) {
        System.out.println("  " + c);
      }
    }
  }

  private int upTo(int n) {
    return random.nextInt(n + 1);
  }

  /** Mostly within 0 .. most, seldom beside it. */
  private int about(int most) {
    switch (random.nextInt(60)) {
      case 0:
        return -1;
      case 1:
        return most + 1;
      case 2:
        return random.nextInt();
      case 3:
        return 0;
      case 4:
        return most;
      default:
        return upTo(most);
    }
  }

  private int aState() {
    return about(plain.states() - 1);
  }

  private int anAct() {
    return about(15 * plain.lift.size() - 1);
  }

  private int anHour() {
    return random.nextInt(3) > 0 ? upTo(3) : about(23);
  }

  private void one(int which) {
    int hour = anHour();
    int s = aState();
    int act = anAct();
    switch (which) {
      case 0 -> tellKite();
      case 1 -> tellRules();
      case 2 -> due("fault(0)", house.fault(0), plain.fault(0));
      case 3 -> {
        int what = about(3);
        due("fault(" + what + ")", house.fault(what), plain.fault(what));
      }
      case 4 -> {
        int what = about(37);
        due("told(" + what + ")", house.told(what), plain.told(what));
      }
      case 5 -> {
        int what = about(5);
        due("state(" + s + ", " + what + ")", house.state(s, what), plain.state(s, what));
      }
      case 6 -> due("leads(" + s + ", " + act + ")", house.leads(s, act), plain.leads(s, act));
      case 7, 8, 9 -> tellWind();
      case 10 -> {
        int band = about(4);
        int known = about(999);
        due("winds(" + hour + ", " + band + ", " + known + ")", house.winds(hour, band, known),
            plain.winds(hour, band, known));
      }
      case 11 -> {
        int w = about(60);
        due("pull(" + s + ", " + act + ", " + w + ")", house.pull(s, act, w), plain.pull(s, act, w));
      }
      case 12 -> due("safe(" + s + ", " + act + ", " + hour + ")", house.safe(s, act, hour),
          plain.safe(s, act, hour));
      case 13 -> due("gives(" + s + ", " + act + ", " + hour + ")", house.gives(s, act, hour),
          plain.gives(s, act, hour));
      case 14, 15 -> askBest(hour);
      case 16 -> askLooped();
      case 17, 18, 19 -> tellRow();
      case 20 -> askJudged();
      case 21, 22 -> keepRow();
      case 23, 24 -> flyRules();
      case 25 -> askFlown();
      case 26 -> {
        if (plain.states() <= 60) {
          due("held(" + hour + ")", house.held(hour), plain.held(hour));
        }
      }
      case 27 -> {
        int n = about(random.nextBoolean() ? 1000000 : 1000);
        due("tired(" + n + ")", house.tired(n), plain.tired(n));
      }
      case 28 -> {
        int slot = about(5);
        int bound = about(random.nextBoolean() ? 1000000 : 10000);
        due("rounds(" + slot + ", " + hour + ", " + bound + ")", house.rounds(slot, hour, bound),
            plain.rounds(slot, hour, bound));
      }
      case 29, 30 -> askPlan();
      default -> oneMore(which, s, act, hour);
    }
  }

  private void oneMore(int which, int s, int act, int hour) {
    int slot = about(5);
    int x = random.nextBoolean() ? upTo(5) : about(40);
    int y = random.nextBoolean() ? upTo(5) : about(40);
    switch (which) {
      case 31 -> {
        int other = about(5);
        int k = about(99);
        due("apart(" + slot + ", " + x + ", " + other + ", " + y + ", " + k + ")",
            house.apart(slot, x, other, y, k), plain.apart(slot, x, other, y, k));
      }
      case 32 -> {
        int other = about(5);
        due("shift(" + slot + ", " + x + ", " + other + ", " + y + ")",
            house.shift(slot, x, other, y), plain.shift(slot, x, other, y));
      }
      case 33 -> {
        due("stand(" + x + ", " + slot + ")", house.stand(x, slot), plain.stand(x, slot));
        due("fielded()", house.fielded(), plain.fielded());
      }
      case 34 -> {
        due("field()", house.field(), plain.field());
        due("fielded()", house.fielded(), plain.fielded());
      }
      case 35 -> {
        int to = about(23);
        int height = about(random.nextBoolean() ? 9999 : 200);
        due("law(" + hour + ", " + to + ", " + height + ")", house.law(hour, to, height),
            plain.law(hour, to, height));
      }
      case 36 -> {
        int each = about(60);
        int ticks = about(random.nextBoolean() ? 5000 : 50);
        due("breach(" + slot + ", " + hour + ", " + each + ", " + ticks + ")",
            house.breach(slot, hour, each, ticks), plain.breach(slot, hour, each, ticks));
      }
      case 37 -> {
        int n = about(20);
        due("hidden(" + n + ")", house.hidden(n), plain.hidden(n));
      }
      case 38 -> due("pulls(" + s + ", " + act + ", " + hour + ")", house.pulls(s, act, hour),
          plain.pulls(s, act, hour));
      case 39 -> readPull(s, act, hour);
      case 40 -> putRight();
      case 41 -> {
        int known = random.nextBoolean() ? about(readStep + 5) : about(999);
        due("fit(" + known + ")", house.fit(known), plain.fit(known));
      }
      case 42 -> due("next(" + s + ", " + hour + ")", house.next(s, hour), plain.next(s, hour));
      default -> {
        int what = about(16);
        due("count(" + what + ")", house.count(what), plain.count(what));
      }
    }
  }

  // ---- texts

  private void tellTape(List<Integer> bytes) {
    for (int at = 0; at < bytes.size(); at += 20) {
      int[] n = new int[5];
      for (int i = 0; i < 20; i++) {
        n[i / 4] |= (at + i < bytes.size() ? bytes.get(at + i) : 0) << 24 - i % 4 * 8;
      }
      due("feed(" + n[0] + ", " + n[1] + ", " + n[2] + ", " + n[3] + ", " + n[4] + ")",
          house.feed(n[0], n[1], n[2], n[3], n[4]), plain.feed(n[0], n[1], n[2], n[3], n[4]));
    }
    int most = bytes.size() + (random.nextInt(20) == 0 ? random.nextInt(4) - 2 : 0);
    due("end(" + most + ")", house.end(most), plain.end(most));
  }

  private static List<Integer> bytesOf(String text) {
    List<Integer> bytes = new ArrayList<>();
    for (char c : text.toCharArray()) {
      bytes.add(c & 255);
    }
    return bytes;
  }

  private String spoilt(String text) {
    if (random.nextInt(4) > 0 || text.isEmpty()) {
      return text;
    }
    int at = random.nextInt(text.length());
    String signs = ";;0123456789 \n.aehilnoprstuwxz\u0000\u00ffA-";
    char sign = signs.charAt(random.nextInt(signs.length()));
    switch (random.nextInt(4)) {
      case 0:
        return text.substring(0, at) + text.substring(at + 1);
      case 1:
        return text.substring(0, at) + sign + text.substring(at);
      case 2:
        return text.substring(0, at) + sign + text.substring(at + 1);
      default:
        return text.substring(0, at);
    }
  }

  private String gap() {
    return random.nextInt(3) == 0 ? "\n" : random.nextInt(4) == 0 ? "   " : " ";
  }

  private void tellKite() {
    for (int tries = 0; tries < 50; tries++) {
      String text = spoilt(kiteText());
      PlainHouse trial = new PlainHouse();
      trial.tape = bytesOf(text);
      if (text.length() > 780) {
        continue;
      }
      trial.kite();
      if (trial.faultKind == 0 && trial.states() > largest) {
        continue;
      }
      clearTape();
      tellTape(bytesOf(text));
      if (plain.tape.size() == text.length()) {
        due("kite() of " + text.replace('\n', ' '), house.kite(), plain.kite());
        readStep = plain.readStep;
        due("fault(0)", house.fault(0), plain.fault(0));
        due("fault(1)", house.fault(1), plain.fault(1));
      }
      return;
    }
  }

  private void clearTape() {
    if (!plain.tape.isEmpty()) {
      due("end(0)", house.end(0), plain.end(0));
    }
  }

  private int number(int least, int most) {
    return random.nextInt(150) == 0 ? (random.nextBoolean() ? most + 1 : Math.max(least - 1, 0))
        : least + upTo(most - least);
  }

  private String kiteText() {
    StringBuilder text = new StringBuilder();
    int side = largest > 60 ? 6 : 3;
    int longest = largest > 60 ? 8 : 4;
    // with little between weight and mark loops are few, and may all lose
    boolean narrow = random.nextInt(4) == 0;
    String[] clauses = {"across" + gap() + number(2, side), "high" + gap() + number(2, side),
        "rope" + gap() + number(2, longest), "unit" + gap() + number(5, 50),
        "weight" + gap() + (narrow ? number(300, 1000) : number(0, 900)),
        "mark" + gap() + (narrow ? number(900, 1500) : number(1000, 40000)),
        "loss" + gap() + number(0, random.nextBoolean() ? 9999 : 200),
        "reel" + gap() + number(0, 400), "cross" + gap() + number(100, 400),
        "tire" + gap() + number(0, 3000), "lift" + numbers(3, random.nextBoolean() ? 99 : 12),
        "window" + numbers(6, 100)};
    for (int i = 0; i < clauses.length; i++) {
      boolean always = i < 3;
      if (always || random.nextBoolean()) {
        text.append(clauses[i]).append(random.nextBoolean() ? ";" : " ;").append(gap());
      }
    }
    if (random.nextInt(30) == 0) {
      text.append(clauses[random.nextInt(12)]).append(";");
    }
    return text.toString();
  }

  private String numbers(int most, int bound) {
    int count = 1 + random.nextInt(most + (random.nextInt(20) == 0 ? 1 : 0));
    StringBuilder text = new StringBuilder();
    for (int i = 0; i < count; i++) {
      text.append(gap()).append(number(0, bound));
    }
    return text.toString();
  }

  private static String oneOf(Random random, String[] words) {
    return words[random.nextInt(words.length)];
  }

  private void tellRules() {
    StringBuilder text = new StringBuilder();
    int lines = random.nextInt(20) == 0 ? 9 : random.nextInt(9);
    for (int i = 0; i < lines; i++) {
      int conds = random.nextInt(40) == 0 ? 4 : 1 + random.nextInt(3);
      String joint = "when ";
      for (int c = 0; c < conds; c++) {
        String what = oneOf(random, COND_WORDS);
        int bound = what.equals("pull") ? 2000 : what.equals("height") ? 60 : 4;
        text.append(joint).append(what).append(gap()).append(oneOf(random, HOW_WORDS)).append(gap())
            .append(number(0, bound)).append(gap());
        joint = "and ";
      }
      text.append("do").append(gap()).append(number(0, plain.lift.size() - 1)).append(gap())
          .append(oneOf(random, MOVE_WORDS)).append(gap()).append(oneOf(random, DRUM_WORDS))
          .append(";");
    }
    String all = spoilt(text.toString());
    if (all.length() > 780) {
      return;
    }
    clearTape();
    tellTape(bytesOf(all));
    if (plain.tape.size() == all.length()) {
      due("rules() of " + all.replace('\n', ' '), house.rules(), plain.rules());
      due("fault(0)", house.fault(0), plain.fault(0));
      due("fault(1)", house.fault(1), plain.fault(1));
    }
  }

  // ---- winds and loops

  private void tellWind() {
    int told = random.nextInt(30) == 0 ? about(step) : step + random.nextInt(4);
    int hour = anHour();
    int band = about(random.nextBoolean() ? 1 : 4);
    int low = about(random.nextBoolean() ? 20 : 60);
    int high = random.nextInt(10) == 0 ? about(60) : low < 60 ? low + random.nextInt(5) : low;
    int want = plain.wind(told, hour, band, low, high);
    due("wind(" + told + ", " + hour + ", " + band + ", " + low + ", " + high + ")",
        house.wind(told, hour, band, low, high), want);
    step = want > 0 ? told : step;
  }

  private void askBest(int hour) {
    due("best(" + hour + ")", house.best(hour), plain.best(hour));
    int acts = plain.looped == null ? 0 : plain.looped.acts().size();
    for (int i = 0; i <= acts && i < 12; i++) {
      due("looped(" + (10 + i) + ")", house.looped(10 + i), plain.looped(10 + i));
    }
    due("looped(0)", house.looped(0), plain.looped(0));
    due("looped(1)", house.looped(1), plain.looped(1));
  }

  private void askLooped() {
    int what = about(40);
    due("looped(" + what + ")", house.looped(what), plain.looped(what));
  }

  /** A way there and back again, the best loop, or anything. */
  private void tellRow() {
    List<Integer> row = new ArrayList<>();
    int start = upTo(plain.states() - 1);
    int slants = plain.lift.size();
    if (random.nextInt(3) > 0) {
      int at = start;
      List<Integer> back = new ArrayList<>();
      int steps = random.nextInt(5) == 0 ? random.nextInt(52) : random.nextInt(6);
      for (int i = 0; i < steps; i++) {
        int act = random.nextInt(15 * slants);
        int goal = plain.leads(at, act);
        if (goal >= 0) {
          at = goal;
          row.add(act + 48);
          int move = act / 3 % 5;
          int opposite = new int[] {0, 2, 1, 4, 3}[move];
          back.add(0, 15 * random.nextInt(slants) + 3 * opposite + (3 - act % 3) % 3 + 48);
        }
      }
      row.addAll(back);
    } else if (plain.looped != null && random.nextBoolean()) {
      start = plain.looped.start();
      for (int act : plain.looped.acts()) {
        row.add(act + 48);
      }
    } else {
      for (int i = random.nextInt(6); i >= 0; i--) {
        row.add(48 + about(15 * slants - 1) & 255);
      }
    }
    clearTape();
    tellTape(row);
    int hour = anHour();
    int s = random.nextInt(20) == 0 ? aState() : start;
    due("judge(" + s + ", " + hour + ")", house.judge(s, hour), plain.judge(s, hour));
    due("count(7)", house.count(7), plain.count(7));
  }

  private void askJudged() {
    for (int what = -1; what <= 5; what++) {
      due("judged(" + what + ")", house.judged(what), plain.judged(what));
    }
  }

  private void keepRow() {
    tellRow();
    int slot = about(5);
    due("keep(" + slot + ")", house.keep(slot), plain.keep(slot));
  }

  private void flyRules() {
    int s = aState();
    int hour = anHour();
    int ticks = about(random.nextInt(4) > 0 ? 40 : 500);
    int each = about(60);
    boolean byHigh = random.nextBoolean();
    due("fly(" + s + ", " + hour + ", " + ticks + ", " + each + ", " + byHigh + ")",
        house.fly(s, hour, ticks, each, byHigh), plain.fly(s, hour, ticks, each, byHigh));
    askFlown();
  }

  private void askFlown() {
    for (int what = 0; what < 4; what++) {
      due("flown(" + what + ")", house.flown(what), plain.flown(what));
    }
    int what = about(20);
    due("flown(" + what + ")", house.flown(what), plain.flown(what));
  }

  private void askPlan() {
    int from = about(23);
    int to = random.nextInt(3) > 0 ? Math.min(from + random.nextInt(12), 23) : about(23);
    int each = about(60);
    int scale = new int[] {10, 1000, 20000, 1000000}[random.nextInt(4)];
    int launch = about(scale);
    int land = about(scale);
    int fall = about(scale);
    String call = "plan(" + from + ", " + to + ", " + each + ", " + launch + ", " + land + ", "
        + fall + ")";
    due(call, house.plan(from, to, each, launch, land, fall),
        plain.plan(from, to, each, launch, land, fall));
    for (int h = -1; h <= 24; h += 1 + random.nextInt(3)) {
      due("planned(" + h + ")", house.planned(h), plain.planned(h));
    }
  }

  // ---- pulls read

  private void readPull(int s, int act, int hour) {
    int told = random.nextInt(30) == 0 ? about(readStep) : readStep + random.nextInt(4);
    int pull = plain.pulls(s, act, hour);
    int middle = pull < 0 || random.nextInt(4) == 0 ? upTo(99999) : pull;
    int low = random.nextInt(20) == 0 ? about(99999999) : Math.max(0, middle - upTo(middle / 2 + 1));
    int high = random.nextInt(20) == 0 ? about(99999999) : middle + upTo(middle + 1);
    due("read(" + told + ", " + s + ", " + act + ", " + hour + ", " + low + ", " + high + ")",
        house.read(told, s, act, hour, low, high), plain.read(told, s, act, hour, low, high));
    readStep = plain.readStep;
  }

  private void putRight() {
    int told = random.nextInt(30) == 0 ? about(readStep) : readStep + random.nextInt(4);
    int k = about(Math.max(plain.readings.size() - 1, 0));
    int low = random.nextInt(20) == 0 ? about(99999999) : upTo(500);
    int high = random.nextInt(20) == 0 ? about(99999999) : low + upTo(20000);
    due("right(" + told + ", " + k + ", " + low + ", " + high + ")",
        house.right(told, k, low, high), plain.right(told, k, low, high));
    readStep = plain.readStep;
  }
}
