/** Counts answers that are not as due, and tells texts and rows to a house. */
final class Due {
  int wrong = 0;
  int asked = 0;
  private final String name;
  private String sentence = "";
  private int askedBefore = 0;

  Due(String name) {
    this.name = name;
  }

  /** The sentence of the document that the answers to come are due by. */
  void by(String words) {
    if (!sentence.isEmpty() && asked == askedBefore) {
      wrong++;
      System.out.println("no test of: " + sentence);
    }
    sentence = words;
    askedBefore = asked;
  }

  void is(String call, int got, int want) {
    asked++;
    if (got != want) {
      wrong++;
      System.out.println(sentence + ": " + call + " answered " + got + ", due is " + want);
    }
  }

  void is(int promise, String call, int got, int want) {
    asked++;
    if (got != want) {
      wrong++;
      System.out.println("promise " + promise + ": " + call + " answered " + got + ", due is " + want);
    }
  }

  void end() {
    by("");
    System.out.println(name + ": " + asked + " answers, " + wrong + " not as due");
    if (wrong != 0) {
      System.exit(1);
    }
  }

  /** The text, alone on the tape. */
  static KitePower tape(KitePower x, String text) {
    x.end(0);
    StringBuilder bytes = new StringBuilder(text);
    while (bytes.length() % 20 != 0) {
      bytes.append('\0');
    }
    for (int at = 0; at < bytes.length(); at += 20) {
      int[] n = new int[5];
      for (int i = 0; i < 20; i++) {
        n[i / 4] |= (bytes.charAt(at + i) & 255) << 24 - i % 4 * 8;
      }
      x.feed(n[0], n[1], n[2], n[3], n[4]);
    }
    x.end(text.length());
    return x;
  }

  static KitePower kite(String text) {
    KitePower x = new KitePower();
    tape(x, text).kite();
    return x;
  }

  static int rules(KitePower x, String text) {
    return tape(x, text).rules();
  }

  /** A row of acts, judged. */
  static int judge(KitePower x, int s, int hour, int... acts) {
    StringBuilder row = new StringBuilder();
    for (int act : acts) {
      row.append((char) (act + 48));
    }
    return tape(x, row.toString()).judge(s, hour);
  }

  static void keep(KitePower x, int slot, int s, int... acts) {
    judge(x, s, 0, acts);
    if (x.keep(slot) != acts.length) {
      throw new IllegalStateException("the test's row is no loop");
    }
  }

  static void windsAll(KitePower x, int hour, int low, int high) {
    for (int band = 0; band < 5; band++) {
      x.wind(0, hour, band, low, high);
    }
  }
}
