/** Each sentence of "I. THE TAPE" and of promises 1 to 7 that names an edge, by its own words. */
public final class EdgesOfTextsTest {
  private static final Due DUE = new Due("EdgesOfTextsTest");
  private static final int NONE = KitePower.NONE;
  private static final int FULL = KitePower.FULL;
  private static final String[] NAMES = {"across", "high", "rope", "unit", "weight", "mark", "loss",
      "reel", "cross", "tire"};
  private static final int[][] BOUNDS = {{2, 6, 5}, {2, 6, 4}, {2, 8, 6}, {5, 50, 20}, {0, 9999, 100},
      {1, 99999, 20000}, {0, 9999, 0}, {0, 400, 100}, {100, 400, 150}, {0, 99999, 1000}};
  private static final String LINE = "when row is 0 do 0 up in;";

  public static void main(String[] args) {
    constants();
    tapeFull();
    tapeEmptied();
    tapeLeft();
    feedOrder();
    end();
    blanks();
    bytesAlone();
    bytesBetween();
    bytesAsSemicolon();
    words();
    numbers();
    bounds();
    lifts();
    windows();
    lines();
    conds();
    slants();
    places();
    firstFault();
    leastKind();
    twice();
    room();
    clauses();
    kiteStays();
    rulesStay();
    rulesReplaced();
    latestFault();
    toldOthers();
    DUE.end();
  }

  private static KitePower house() {
    return new KitePower();
  }

  private static void kite(String text, int clauses) {
    KitePower x = house();
    DUE.is("kite() of '" + text + "'", Due.tape(x, text).kite(), clauses);
    DUE.is("fault(0) of '" + text + "'", x.fault(0), 0);
    DUE.is("fault(1) of '" + text + "'", x.fault(1), NONE);
  }

  private static void kiteFault(String text, int kind, int place) {
    KitePower x = house();
    DUE.is("kite() of '" + text + "'", Due.tape(x, text).kite(), NONE);
    DUE.is("fault(0) of '" + text + "'", x.fault(0), kind);
    DUE.is("fault(1) of '" + text + "'", x.fault(1), place);
  }

  private static void rules(String text, int count) {
    KitePower x = house();
    DUE.is("rules() of '" + text + "'", Due.rules(x, text), count);
    DUE.is("told(11) of '" + text + "'", x.told(11), count);
    DUE.is("fault(0) of '" + text + "'", x.fault(0), 0);
    DUE.is("fault(1) of '" + text + "'", x.fault(1), NONE);
  }

  private static void rulesFault(String text, int kind, int place) {
    KitePower x = house();
    DUE.is("rules() of '" + text + "'", Due.rules(x, text), NONE);
    DUE.is("fault(0) of '" + text + "'", x.fault(0), kind);
    DUE.is("fault(1) of '" + text + "'", x.fault(1), place);
  }

  private static void constants() {
    DUE.by("The constants: NONE = -1, RANGE = -2, FULL = -3, STATE = -4");
    DUE.is("NONE", KitePower.NONE, -1);
    DUE.is("RANGE", KitePower.RANGE, -2);
    DUE.is("FULL", KitePower.FULL, -3);
    DUE.is("STATE", KitePower.STATE, -4);
  }

  // ---- the tape

  private static void tapeFull() {
    DUE.by("THE TAPE has at most 800 bytes / FULL when there would be more than 800");
    KitePower x = Due.tape(house(), " ".repeat(793) + "rope 3;");
    DUE.is("count(7)", x.count(7), 800);
    DUE.is("feed to 820", x.feed(-1, -1, -1, -1, -1), FULL);
    DUE.is("count(7)", x.count(7), 800);
    DUE.is("kite(): the bytes are those of before", x.kite(), 1);
    DUE.is("told(2)", x.told(2), 3);
    for (int length = 781; length < 800; length++) {
      Due.tape(x, " ".repeat(length));
      DUE.is("feed to " + (length + 20), x.feed(-1, -1, -1, -1, -1), FULL);
      DUE.is("count(7)", x.count(7), length);
    }
    Due.tape(x, " ".repeat(780));
    DUE.is("feed to 800", x.feed(0, 0, 0, 0, 0), 800);
    DUE.is("end(0)", x.end(0), 0);
    DUE.is("feed to an emptied tape", x.feed(0, 0, 0, 0, 0), 20);
  }

  private static void emptied(KitePower x, String call) {
    DUE.is("count(7) behind " + call, x.count(7), 0);
    DUE.is("end(1) behind " + call, x.end(1), NONE);
    DUE.is("feed behind " + call, x.feed(0x20202020, 0x20202020, 0x20202020, 0x20202020, 0x20202020), 20);
    DUE.is("rules() of blanks behind " + call, x.rules(), 0);
  }

  private static void tapeEmptied() {
    DUE.by("each call that reads it empties it, whatever it tells");
    KitePower x = house();
    Due.tape(x, "rope 3;").kite();
    emptied(x, "kite()");
    Due.tape(x, "rope 3; x").kite();
    emptied(x, "kite() with a FAULT");
    Due.tape(x, LINE).rules();
    emptied(x, "rules()");
    Due.tape(x, "when x").rules();
    emptied(x, "rules() with a FAULT");
    Due.tape(x, "00").judge(0, 0);
    emptied(x, "judge()");
    Due.tape(x, "0~").judge(0, 0);
    emptied(x, "judge() of no ACT");
    Due.tape(x, "0".repeat(101)).judge(0, 0);
    emptied(x, "judge() of 101 bytes");
    Due.tape(x, "00").judge(60, 0);
    emptied(x, "judge() of no STATE");
    Due.tape(x, "00").judge(0, 24);
    emptied(x, "judge() of no hour");
    Due.tape(x, " ".repeat(800)).kite();
    emptied(x, "kite() of 800 bytes");
  }

  private static void tapeLeft() {
    DUE.by("each call that reads it empties it: and no other");
    KitePower x = Due.tape(house(), "rope 3;");
    x.end(8);
    x.end(-1);
    x.fault(0);
    x.told(0);
    x.wind(0, 0, 0, 1, 2);
    x.best(0);
    x.keep(0);
    x.fly(0, 0, 1, 1, true);
    x.held(0);
    x.plan(0, 1, 1, 0, 0, 0);
    x.stand(0, 0);
    x.field();
    x.law(0, 0, 5);
    x.read(0, 0, 0, 0, 0, 0);
    x.right(0, 0, 0, 0);
    x.next(0, 0);
    DUE.is("count(7)", x.count(7), 7);
    DUE.is("kite()", x.kite(), 1);
    DUE.is("told(2)", x.told(2), 3);
  }

  private static void feedOrder() {
    DUE.by("Twenty bytes come behind THE TAPE, the highest of each int first");
    for (int i = 0; i < 40; i++) {
      int at = i;
      KitePower x = house();
      int[] n = new int[10];
      java.util.Arrays.fill(n, 0x20202020);
      n[at / 4] = n[at / 4] & ~(255 << 24 - at % 4 * 8) | 0xe9 << 24 - at % 4 * 8;
      DUE.is("feed", x.feed(n[0], n[1], n[2], n[3], n[4]), 20);
      DUE.is("feed", x.feed(n[5], n[6], n[7], n[8], n[9]), 40);
      DUE.is("kite()", x.kite(), NONE);
      DUE.is("fault(1)", x.fault(1), at);
    }
    KitePower x = house();
    x.feed(0x726f7065, 0x20333b20, 0x20202020, 0x20202020, 0x20202020);
    x.end(6);
    DUE.is("feed behind 6 bytes", x.feed(0x3b202020, 0x20202020, 0x20202020, 0x20202020, 0x20202020), 26);
    DUE.is("kite() of 'rope 3' and ';'", x.kite(), 1);
  }

  private static void end() {
    DUE.by("THE TAPE has its first n bytes alone: n; NONE when it has not so many, or n is below 0");
    KitePower x = house();
    DUE.is("end(0) of none", x.end(0), 0);
    DUE.is("end(1) of none", x.end(1), NONE);
    Due.tape(x, "rope 3;high 3;");
    int[][] all = {{15, NONE}, {-1, NONE}, {Integer.MIN_VALUE, NONE}, {Integer.MAX_VALUE, NONE},
        {14, 14}, {8, 8}, {9, NONE}, {8, 8}, {7, 7}};
    for (int[] a : all) {
      DUE.is("end(" + a[0] + ")", x.end(a[0]), a[1]);
    }
    DUE.is("count(7)", x.count(7), 7);
    DUE.is("kite() of the first 7 alone", x.kite(), 1);
    DUE.is("told(1)", x.told(1), 4);
    DUE.is("told(2)", x.told(2), 3);
  }

  // ---- tokens

  private static void blanks() {
    DUE.by("TOKENS with any blanks (32, 10) between");
    kite("rope3;high3;", 2);
    kite("\n\n  rope \n\n 3 \n ; \n high\n3\n;\n ", 2);
    kite(" ", 0);
    kite("\n", 0);
    kite("lift1 2\n3;window1\n2;", 2);
    kiteFault("lift 12 3 4 5;", 4, 12);
    rules("when\npull\nis\n0\ndo\n0\nup\nin\n;", 1);
    rules("when row is 0do 0up in;when row is 0and row is 1do1down out;", 2);
    rulesFault("whenrow is 0 do 0 up in;", 1, 0);
    rulesFault("when row is 0 do 0 upin;", 1, 19);
  }

  private static void bytesAlone() {
    DUE.by("1 SYNTAX: a TOKEN (or byte that is none) with which no text goes on: of 256 bytes");
    for (int b = 0; b < 256; b++) {
      boolean isBlank = b == 32 || b == 10;
      KitePower x = house();
      Due.tape(x, "rope 3;" + (char) b);
      DUE.is("kite() with byte " + b, x.kite(), isBlank ? 1 : NONE);
      DUE.is("fault(0) with byte " + b, x.fault(0), isBlank ? 0 : 1);
      DUE.is("fault(1) with byte " + b, x.fault(1), isBlank ? NONE : 7);
      Due.tape(x, LINE + (char) b);
      DUE.is("rules() with byte " + b, x.rules(), isBlank ? 1 : NONE);
      DUE.is("fault(1) with byte " + b, x.fault(1), isBlank ? NONE : LINE.length());
    }
  }

  private static void bytesBetween() {
    DUE.by("TOKENS with any blanks (32, 10) between: of 256 bytes between two");
    for (int b = 0; b < 256; b++) {
      String text = "rope" + (char) b + "3;";
      if (b == 32 || b == 10 || b == '0') {
        kite(text, 1);
      } else if (b >= '1' && b <= '9') {
        kiteFault(text, 2, 4);
      } else {
        kiteFault(text, 1, b >= 'a' && b <= 'z' ? 0 : 4);
      }
    }
  }

  private static void bytesAsSemicolon() {
    DUE.by("{clause \";\"} / a byte that is none: of 256 bytes where a semicolon is due");
    for (int b = 0; b < 256; b++) {
      boolean isBlank = b == 32 || b == 10;
      boolean isDigit = b >= '0' && b <= '9';
      String kite = "rope 3" + (char) b;
      String rules = "when row is 0 do 0 up in" + (char) b;
      if (b == ';') {
        kite(kite, 1);
        rules(rules, 1);
      } else {
        kiteFault(kite, isDigit ? 2 : 1, isDigit ? 5 : isBlank ? 7 : 6);
        rulesFault(rules, 1, b >= 'a' && b <= 'z' ? 22 : isBlank ? 25 : 24);
      }
    }
  }

  private static void words() {
    DUE.by("WORDS (small letters, as many as there are, 8 at most)");
    kiteFault("ropes 3;", 1, 0);
    kiteFault("rop e 3;", 1, 0);
    kiteFault("highrope 3;", 1, 0);
    kiteFault("abcdefgh 3;", 1, 0);
    kiteFault("abcdefghi 3;", 1, 0);
    kiteFault("rope 3;windowwindow 3;", 1, 7);
    kiteFault("rope abcdefghi;", 1, 5);
    kiteFault("rope 3abcdefghi;", 1, 6);
    kiteFault("z".repeat(800), 1, 0);
    kiteFault("ropE 3;", 1, 0);
    rulesFault("when pullpullpull is 0 do 0 up in;", 1, 5);
    rulesFault("when pull isis 0 do 0 up in;", 1, 10);
    rulesFault("when pull is 0 dodododod 0 up in;", 1, 15);
    rulesFault("when pull is 0 do 0 upupupupu in;", 1, 20);
    rulesFault("when pull is 0 do 0 up inininini;", 1, 23);
  }

  private static void numbers() {
    DUE.by("N (digits, as many as there are, 5 at most)");
    kite("rope 00003;", 1);
    kiteFault("rope 000003;", 1, 5);
    kite("tire 99999;mark 99999;", 2);
    kiteFault("tire 100000;", 1, 5);
    kiteFault("tire 4294967296;", 1, 5);
    kiteFault("lift 12345;", 2, 5);
    kiteFault("lift 123456;", 1, 5);
    kiteFault("rope " + "3".repeat(795), 1, 5);
    rules("when pull is 00000 do 00001 up in;", 1);
    rules("when pull is 99999 do 0 up in;", 1);
    rulesFault("when pull is 099999 do 0 up in;", 1, 13);
    rulesFault("when pull is 0 do 000000 up in;", 1, 18);
  }

  // ---- the kite's text

  private static void bounds() {
    DUE.by("Bounds: across, high 2 .. 6 (5, 4), rope 2 .. 8 (6), .. tire 0 .. 99999 (1000)");
    for (int i = 0; i < NAMES.length; i++) {
      DUE.is(NAMES[i] + " untold", house().told(i), BOUNDS[i][2]);
      for (int k = 0; k < 2; k++) {
        KitePower x = Due.kite(NAMES[i] + " " + BOUNDS[i][k] + ";");
        DUE.is("fault(0)", x.fault(0), 0);
        DUE.is("told(" + i + ")", x.told(i), BOUNDS[i][k]);
      }
      if (BOUNDS[i][0] > 0) {
        kiteFault(NAMES[i] + " " + (BOUNDS[i][0] - 1) + ";", 2, NAMES[i].length() + 1);
        kiteFault(NAMES[i] + " 0", 2, NAMES[i].length() + 1);
      }
      if (BOUNDS[i][1] < 99999) {
        kiteFault(NAMES[i] + " " + (BOUNDS[i][1] + 1), 2, NAMES[i].length() + 1);
        kiteFault(NAMES[i] + " 99999;", 2, NAMES[i].length() + 1);
      }
    }
  }

  private static void list(KitePower x, int first, int... want) {
    for (int i = 0; i < want.length; i++) {
      DUE.is("told(" + (first + i) + ")", x.told(first + i), want[i]);
    }
  }

  private static void lifts() {
    DUE.by("lift: 1 .. 3 N of 0 .. 99 (10 2)");
    list(house(), 19, NONE, 10, 2, NONE);
    list(Due.kite("lift 0;"), 20, 0, NONE, NONE);
    list(Due.kite("lift 99 0;"), 20, 99, 0, NONE);
    list(Due.kite("lift 0 99 98;"), 19, NONE, 0, 99, 98, NONE);
    list(Due.kite("lift 7;"), 10, 1);
    list(Due.kite("lift 7 7;"), 10, 2);
    list(Due.kite("lift 7 7 7;"), 10, 3);
    kiteFault("lift;", 1, 4);
    kiteFault("lift 100;", 2, 5);
    kiteFault("lift 1 100;", 2, 7);
    kiteFault("lift 1 2 100;", 2, 9);
    kiteFault("lift 1 2 3 4;", 4, 11);
    KitePower x = Due.kite("lift 1 2 3;");
    Due.tape(x, "lift 4;").kite();
    list(x, 20, 4, NONE, NONE);
    Due.tape(x, "").kite();
    list(x, 19, NONE, 10, 2, NONE);
  }

  private static void windows() {
    DUE.by("window: 1 .. 6 N of 0 .. 100 (100); the last of window stands for those that are not told");
    list(Due.kite("across 6;"), 30, 100, 100, 100, 100, 100, 100, NONE);
    list(Due.kite("across 6;window 0;"), 30, 0, 0, 0, 0, 0, 0, NONE);
    list(Due.kite("across 6;window 1 2;"), 30, 1, 2, 2, 2, 2, 2, NONE);
    list(Due.kite("across 6;window 1 2 3;"), 30, 1, 2, 3, 3, 3, 3, NONE);
    list(Due.kite("window 1 2 3 4;across 6;"), 30, 1, 2, 3, 4, 4, 4, NONE);
    list(Due.kite("across 6;window 1 2 3 4 5;"), 30, 1, 2, 3, 4, 5, 5, NONE);
    list(Due.kite("across 6;window 1 2 3 4 5 100;"), 29, NONE, 1, 2, 3, 4, 5, 100, NONE);
    list(Due.kite("across 2;window 1 2 3 4 5 6;"), 30, 1, 2, NONE, NONE);
    kiteFault("window;", 1, 6);
    kiteFault("window 101;", 2, 7);
    kiteFault("window 1 2 3 4 5 101;", 2, 17);
    kiteFault("window 1 2 3 4 5 6 7;", 4, 19);
    kiteFault("across 2;window 1 2 3 4 5 6 7;", 4, 28);
  }

  // ---- the text of rules

  private static void lines() {
    DUE.by("RULES of flying, a text = {..}, at most 8 lines");
    rules("", 0);
    rules(" \n", 0);
    for (int count = 1; count <= 8; count++) {
      rules(LINE.repeat(count), count);
    }
    rulesFault(LINE.repeat(9), 4, 8 * LINE.length());
  }

  private static void conds() {
    DUE.by("at most 3 CONDS / COND = (\"pull\" | \"height\" | ..) (\"above\" | \"below\" | \"is\") N");
    rulesFault("when do 0 up in;", 1, 5);
    rulesFault("when and row is 0 do 0 up in;", 1, 5);
    rules("when row is 0 do 0 up in;", 1);
    rules("when row is 0 and row is 0 do 0 up in;", 1);
    rules("when row is 0 and row is 0 and row is 0 do 0 up in;", 1);
    rulesFault("when row is 0 and row is 0 and row is 0 and row is 0 do 0 up in;", 4, 40);
    rulesFault("when row is 0 and do 0 up in;", 1, 18);
    for (String what : new String[] {"pull", "height", "rope", "column", "row"}) {
      for (String how : new String[] {"above", "below", "is"}) {
        rules("when " + what + " " + how + " 0 do 0 stay hold;", 1);
        rules("when " + what + " " + how + " 99999 do 0 stay hold;", 1);
      }
      rulesFault("when " + what + " 0 do 0 stay hold;", 1, 6 + what.length());
      rulesFault("when " + what + " when 0 do 0 stay hold;", 1, 6 + what.length());
    }
    for (String move : new String[] {"stay", "left", "right", "up", "down"}) {
      for (String drum : new String[] {"hold", "out", "in"}) {
        rules("when row is 0 do 1 " + move + " " + drum + ";", 1);
        rulesFault("when row is 0 do 1 " + drum + " " + move + ";", 1, 19);
      }
      rulesFault("when row is 0 do 1 " + move + ";", 1, 19 + move.length());
    }
  }

  private static void slants() {
    DUE.by("N behind do: a SLANT (0 .. how many N lift has now, less 1)");
    String[] lifts = {"lift 5;", "lift 5 5;", "lift 5 5 5;"};
    KitePower x = house();
    for (int i = 0; i < lifts.length; i++) {
      Due.tape(x, lifts[i]).kite();
      for (int slant = 0; slant < 5; slant++) {
        int want = slant <= i ? 1 : NONE;
        DUE.is("slant " + slant, Due.rules(x, "when row is 0 do " + slant + " up in;"), want);
        DUE.is("fault(0)", x.fault(0), want == 1 ? 0 : 2);
        DUE.is("fault(1)", x.fault(1), want == 1 ? NONE : 17);
      }
      DUE.is("slant 99999", Due.rules(x, "when row is 0 do 99999 up in;"), NONE);
      DUE.is("fault(0)", x.fault(0), 2);
    }
  }

  // ---- faults

  private static void places() {
    DUE.by("PLACE (a TOKEN's first byte; the text's length at its end)");
    String kite = "rope 3;lift 1 ;";
    int[] kitePlaces = {NONE, 0, 0, 0, 4, 5, 6, NONE, 7, 7, 7, 11, 12, 13, 14, NONE};
    for (int n = 0; n < kitePlaces.length; n++) {
      KitePower x = house();
      Due.tape(x, kite);
      x.end(n);
      DUE.is("kite() of the first " + n, x.kite(), n == 0 ? 0 : n == 7 ? 1 : n == 15 ? 2 : NONE);
      DUE.is("fault(0) of the first " + n, x.fault(0), kitePlaces[n] == NONE ? 0 : 1);
      DUE.is("fault(1) of the first " + n, x.fault(1), kitePlaces[n]);
    }
    // w h e n _ r o w _ i s _ 0 _ d o _ 0 _ u p _ i n ;
    int[] rulesPlaces = {NONE, 0, 0, 0, 4, 5, 5, 5, 8, 9, 9, 11, 12, 13, 14, 14, 16, 17, 18, 19, 19,
        21, 22, 22, 24, NONE};
    for (int n = 0; n < rulesPlaces.length; n++) {
      KitePower x = house();
      Due.tape(x, LINE);
      x.end(n);
      DUE.is("rules() of the first " + n, x.rules(), n == 0 ? 0 : n == 25 ? 1 : NONE);
      DUE.is("fault(0) of the first " + n, x.fault(0), rulesPlaces[n] == NONE ? 0 : 1);
      DUE.is("fault(1) of the first " + n, x.fault(1), rulesPlaces[n]);
    }
    kiteFault("rope 3 \n \n", 1, 10);
    kiteFault(" ".repeat(796) + "rope", 1, 800);
    kiteFault(" ".repeat(799) + ";", 1, 799);
  }

  private static void firstFault() {
    DUE.by("the first come to as TOKENS are read one by one");
    kiteFault("rope 9;lift 1 2 3 4;rope 3;x", 2, 5);
    kiteFault("rope 3;rope 9;", 3, 7);
    kiteFault("lift 1 2 3 4 100;", 4, 11);
    kiteFault("lift 1 100 3 4;", 2, 7);
    kiteFault("rope 9", 2, 5);
    kiteFault("rope x9;", 1, 5);
    rulesFault("when row is 0 do 2 x in", 2, 17);
    rulesFault("when row above 0 and row is 0 and row is 0 and x", 4, 43);
    rulesFault(LINE.repeat(8) + "when x", 4, 200);
    rulesFault("when row is 0 do 2 up in;" + LINE.repeat(8), 2, 17);
  }

  private static void leastKind() {
    DUE.by("of one TOKEN the least KIND");
    kiteFault("lift 1 2 3 100;", 2, 11);
    kiteFault("lift 1 2 3 99;", 4, 11);
    kiteFault("lift 1 2 3 000099;", 1, 11);
    kiteFault("window 1 2 3 4 5 6 101;", 2, 19);
    kiteFault("window 1 2 3 4 5 6 100;", 4, 19);
    kiteFault("window 1 2 3 4 5 6 000100;", 1, 19);
    kiteFault("rope 3;high rope", 1, 12);
    kiteFault("rope rope", 1, 5);
    rulesFault(LINE.repeat(8) + "do", 1, 200);
    rulesFault(LINE.repeat(8) + "7", 1, 200);
    rulesFault(LINE.repeat(8) + ";", 1, 200);
    rulesFault("when row is 0 and row is 0 and row is 0 or", 1, 40);
    rulesFault("when row is 0 and row is 0 and row is 0;", 1, 39);
    rulesFault("when row is 0 and row is 0 and row is 0", 1, 39);
  }

  private static void twice() {
    DUE.by("3 TWICE: a clause's first WORD that was told already");
    for (String name : new String[] {"across", "high", "rope", "unit", "weight", "mark", "loss",
        "reel", "cross", "tire", "lift", "window"}) {
      String n = name.equals("cross") ? " 100" : " 5";
      String other = name.equals("unit") ? "mark 5;" : "unit 5;";
      String clause = name + n + ";";
      kite(clause + other, 2);
      kiteFault(clause + name, 3, clause.length());
      kiteFault(clause + other + "\n" + clause, 3, clause.length() + other.length() + 1);
    }
    KitePower x = Due.kite("rope 3;");
    DUE.is("rope again, in a text of its own", Due.tape(x, "rope 3;").kite(), 1);
    DUE.is("behind a FAULT", Due.tape(x, "rope 3;rope").kite(), NONE);
    DUE.is("rope again, in a text of its own", Due.tape(x, "rope 3;").kite(), 1);
  }

  private static void room() {
    DUE.by("4 ROOM: the fourth N of lift, the seventh of window; the ninth line, at its \"when\"; "
        + "the fourth COND, at its \"and\"");
    kite("lift 1 2 3;", 1);
    kiteFault("lift 1 2 3 4", 4, 11);
    kite("window 1 2 3 4 5 6;", 1);
    kiteFault("window 1 2 3 4 5 6 7", 4, 19);
    rules(LINE.repeat(8) + " ", 8);
    rulesFault(LINE.repeat(8) + " when", 4, 201);
    rulesFault("when row is 0 and row is 0 and row is 0 \nand", 4, 41);
    rulesFault(LINE + "when row is 0 and row is 0 and row is 0 and", 4, 65);
    String three = "when row is 0 and row is 1 and row is 2 do 0 up in;";
    rules(three.repeat(8), 8);
  }

  // ---- promises 4 to 7

  private static void clauses() {
    DUE.by("THE TAPE is THE KITE: how many clauses");
    String[] all = {"across 2;", "high 2;", "rope 2;", "unit 5;", "weight 0;", "mark 1;", "loss 0;",
        "reel 0;", "cross 100;", "tire 0;", "lift 0;", "window 0;"};
    StringBuilder text = new StringBuilder();
    for (int i = 0; i < all.length; i++) {
      kite(text.toString(), i);
      text.append(all[i]);
    }
    kite(text.toString(), 12);
    kiteFault(text + "across", 3, text.length());
  }

  private static void kiteStays() {
    DUE.by("NONE with a FAULT (it stays)");
    KitePower x = Due.kite("across 3;high 3;rope 3;unit 30;weight 3;mark 33;loss 3;reel 3;cross 300;"
        + "tire 3;lift 3 33;window 3 30 33;");
    int[] want = {3, 3, 3, 30, 3, 33, 3, 3, 300, 3, 2};
    String[] faults = {"x", "across 2;high 2;rope 2;unit 5;weight 0;mark 1;loss 0;reel 0;cross 100;"
        + "tire 0;lift 1 2 3;window 1 2 3 4 5 6", "lift 1 2 3 4;", "window 101;", "across 2;across 2;"};
    for (String fault : faults) {
      DUE.is("kite()", Due.tape(x, fault).kite(), NONE);
      list(x, 0, want);
      list(x, 20, 3, 33, NONE);
      list(x, 30, 3, 30, 33, NONE);
      DUE.is("count(0)", x.count(0), 27);
      DUE.is("state(26, 3)", x.state(26, 3), 90);
    }
  }

  private static int flownBy(KitePower x, int s) {
    x.fly(s, 0, 1, 1, true);
    return x.flown(10);
  }

  private static void rulesStay() {
    DUE.by("how many lines; NONE with a FAULT (they stay)");
    KitePower x = house();
    Due.rules(x, "when column is 0 do 1 right out;when column is 1 and row is 0 do 0 up hold;");
    String[] faults = {"when column is 0 do 0 up hold;when column is 1 do 0 up hold",
        "when column is 1 do 0 right hold;when row is 0 do 2 up in;", "when", "x",
        "when row is 0 and row is 0 and row is 0 and row is 0 do 0 up in;", LINE.repeat(9)};
    for (String fault : faults) {
      DUE.is("rules()", Due.rules(x, fault), NONE);
      DUE.is("told(11)", x.told(11), 2);
      DUE.is("the first line", flownBy(x, 0), 22);
      DUE.is("the second line", flownBy(x, 1), 9);
      DUE.is("none of both", flownBy(x, 2), 0);
    }
  }

  private static void rulesReplaced() {
    DUE.by("THE TAPE is RULES: how many lines");
    KitePower x = house();
    Due.rules(x, "when row is 0 do 0 up hold;".repeat(8));
    DUE.is("by line 1 of 8", flownBy(x, 0), 9);
    DUE.is("rules()", Due.rules(x, "when row is 0 and column is 1 do 0 right hold;"), 1);
    DUE.is("no line of before is left", flownBy(x, 0), 0);
    DUE.is("by its one line", flownBy(x, 1), 6);
    DUE.is("rules() of nothing", x.rules(), 0);
    DUE.is("no line", flownBy(x, 1), 0);
    Due.rules(x, "when row is 0 do 0 up hold;");
    Due.tape(x, "").kite();
    DUE.is("none behind kite()", flownBy(x, 0), 0);
  }

  private static void faults(KitePower x, int kind, int place) {
    DUE.is("fault(0)", x.fault(0), kind);
    DUE.is("fault(1)", x.fault(1), place);
  }

  private static void latestFault() {
    DUE.by("Of the latest kite() or rules(), what 0: its FAULT's KIND, 0 without (and ahead of any), "
        + "1: its PLACE (NONE). NONE for another what.");
    KitePower x = house();
    faults(x, 0, NONE);
    Due.tape(x, "rope 9;").kite();
    faults(x, 2, 5);
    Due.rules(x, LINE);
    faults(x, 0, NONE);
    Due.rules(x, "when rope");
    faults(x, 1, 9);
    Due.tape(x, "~").judge(0, 0);
    faults(x, 1, 9);
    Due.tape(x, "rope 3;rope").kite();
    faults(x, 3, 7);
    Due.rules(x, LINE.repeat(9));
    faults(x, 4, 200);
    noOtherFaults(x);
    Due.tape(x, "").kite();
    faults(x, 0, NONE);
    noOtherFaults(x);
  }

  private static void noOtherFaults(KitePower x) {
    for (int what : new int[] {2, -1, 10, Integer.MIN_VALUE, Integer.MAX_VALUE}) {
      DUE.is("fault(" + what + ")", x.fault(what), NONE);
    }
  }

  private static void toldOthers() {
    DUE.by("20 + i: lift of SLANT i, 30 + i: window of COLUMN i. NONE for others.");
    KitePower x = Due.kite("across 6;lift 1 2 3;window 1 2 3 4 5 6;");
    for (int what = -2; what < 50; what++) {
      boolean isTold = what >= 0 && what <= 11 || what >= 20 && what <= 22 || what >= 30 && what <= 35;
      DUE.is("told(" + what + ") is told", x.told(what) == NONE ? 0 : 1, isTold ? 1 : 0);
    }
    DUE.is("told(least)", x.told(Integer.MIN_VALUE), NONE);
    DUE.is("told(most)", x.told(Integer.MAX_VALUE), NONE);
  }
}
