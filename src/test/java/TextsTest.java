/** Promises 1 to 7: a new object, the tape, the texts and their faults. */
public final class TextsTest {
  private static final Due DUE = new Due("TextsTest");
  private static final int[] UNTOLD = {5, 4, 6, 20, 100, 20000, 0, 100, 150, 1000};

  public static void main(String[] args) {
    aNewObject();
    theTape();
    kites();
    kiteFaults();
    staleBytes();
    fullTape();
    kiteForgets();
    rules();
    ruleFaults();
    told();
    DUE.end();
  }

  private static void aNewObject() {
    KitePower x = new KitePower();
    for (int i = 0; i < UNTOLD.length; i++) {
      DUE.is(1, "told(" + i + ")", x.told(i), UNTOLD[i]);
    }
    DUE.is(1, "told(10)", x.told(10), 2);
    DUE.is(1, "told(11)", x.told(11), 0);
    DUE.is(1, "told(20)", x.told(20), 10);
    DUE.is(1, "told(21)", x.told(21), 2);
    DUE.is(1, "told(34)", x.told(34), 100);
    DUE.is(1, "winds(23, 4, 999)", x.winds(23, 4, 999), 1010);
    for (int i = 1; i < 8; i++) {
      DUE.is(1, "count(" + i + ")", x.count(i), 0);
    }
    for (int i = 10; i < 16; i++) {
      DUE.is(1, "count(" + i + ")", x.count(i), 0);
    }
    DUE.is(1, "count(0)", x.count(0), 120);
    DUE.is(1, "fault(0)", x.fault(0), 0);
    DUE.is(1, "fault(1)", x.fault(1), KitePower.NONE);
    DUE.is(1, "looped(0)", x.looped(0), -100000000);
    DUE.is(1, "flown(0)", x.flown(0), -100000000);
    DUE.is(1, "judged(4)", x.judged(4), KitePower.NONE);
    DUE.is(1, "planned(0)", x.planned(0), KitePower.NONE);
    DUE.is(1, "fielded()", x.fielded(), 0);
    DUE.is(1, "fit(0)", x.fit(0), (1 << 21) - 1);
    DUE.is(1, "tired(0)", x.tired(0), 0);
    DUE.is(1, "hidden(10)", x.hidden(10), 10);
  }

  private static void theTape() {
    KitePower x = new KitePower();
    for (int i = 1; i <= 40; i++) {
      DUE.is(2, "feed", x.feed(0, 0, 0, 0, 0), 20 * i);
    }
    DUE.is(2, "feed beyond 800", x.feed(0, 0, 0, 0, 0), KitePower.FULL);
    DUE.is(2, "count(7)", x.count(7), 800);
    DUE.is(3, "end(801)", x.end(801), KitePower.NONE);
    DUE.is(3, "end(-1)", x.end(-1), KitePower.NONE);
    DUE.is(3, "end(800)", x.end(800), 800);
    DUE.is(3, "end(781)", x.end(781), 781);
    DUE.is(2, "feed to 801", x.feed(0, 0, 0, 0, 0), KitePower.FULL);
    DUE.is(2, "count(7)", x.count(7), 781);
    DUE.is(3, "end(780)", x.end(780), 780);
    DUE.is(2, "feed to 800", x.feed(0, 0, 0, 0, 0), 800);
    DUE.is(3, "end(0)", x.end(0), 0);
    DUE.is(3, "end(1)", x.end(1), KitePower.NONE);
    // "lift 7 8 9;" and blanks, by ints: the highest byte first
    DUE.is(2, "feed", x.feed(0x6c696674, 0x20372038, 0x20393b20, 0x0a0a2020, 0x20202020), 20);
    DUE.is(4, "kite()", x.kite(), 1);
    DUE.is(2, "told(22)", x.told(22), 9);
    DUE.is(4, "count(7)", x.count(7), 0);
    DUE.is(3, "end(20), emptied", x.end(20), KitePower.NONE);
    Due.tape(x, "rope");
    x.kite();
    DUE.is(4, "count(7) behind a fault", x.count(7), 0);
    Due.tape(x, "when");
    x.rules();
    DUE.is(5, "count(7) behind a fault", x.count(7), 0);
    Due.tape(x, "0");
    x.judge(999, 0);
    DUE.is(17, "count(7) behind RANGE", x.count(7), 0);
    Due.tape(x, "~");
    x.judge(0, 0);
    DUE.is(17, "count(7) behind NONE", x.count(7), 0);
  }

  private static int told(String text) {
    return Due.tape(new KitePower(), text).kite();
  }

  private static void kites() {
    DUE.is(4, "an empty text", told(""), 0);
    DUE.is(4, "blanks", told(" \n \n"), 0);
    DUE.is(4, "all clauses", told("window 1 2 3 4 5 6;lift 0 99 1;tire 0;cross 100;reel 0;loss 0;"
        + "mark 1;weight 0;unit 5;rope 2;high 2;across 2;"), 12);
    DUE.is(4, "all greatest", told("across6;high6;rope8;unit50;weight9999;mark99999;loss9999;"
        + "reel400;cross400;tire99999;lift99;window100;"), 12);
    DUE.is(4, "zeros ahead", told("across 00002 ;"), 1);
    KitePower x = Due.kite("across 6;high 6;rope 8;window 7 8;");
    DUE.is(4, "count(0)", x.count(0), 288);
    DUE.is(4, "told(30)", x.told(30), 7);
    DUE.is(4, "told(35)", x.told(35), 8);
    Due.tape(x, "unit 9;").kite();
    DUE.is(4, "across untold again", x.told(0), 5);
    DUE.is(4, "window untold again", x.told(30), 100);
    DUE.is(4, "unit", x.told(3), 9);
  }

  private static void fault(String text, int kind, int place) {
    KitePower x = new KitePower();
    DUE.is(4, "kite() of '" + text + "'", Due.tape(x, text).kite(), KitePower.NONE);
    DUE.is(6, "fault(0) of '" + text + "'", x.fault(0), kind);
    DUE.is(6, "fault(1) of '" + text + "'", x.fault(1), place);
    DUE.is(4, "the kite stays", x.told(0), 5);
  }

  private static void kiteFaults() {
    String[] names = {"across", "high", "rope", "unit", "weight", "mark", "loss", "reel", "cross",
        "tire"};
    int[] least = {2, 2, 2, 5, 0, 1, 0, 0, 100, 0};
    int[] most = {6, 6, 8, 50, 9999, 99999, 9999, 400, 400, 99999};
    for (int i = 0; i < names.length; i++) {
      int at = names[i].length() + 1;
      if (least[i] > 0) {
        fault(names[i] + " " + (least[i] - 1) + ";", 2, at);
      }
      if (most[i] < 99999) {
        fault(names[i] + " " + (most[i] + 1) + ";", 2, at);
      }
      fault(names[i] + " 100000;", 1, at);
      fault(names[i] + " " + most[i] + " " + most[i] + ";", 1,
          at + 1 + Integer.toString(most[i]).length());
      DUE.is(4, names[i], told(names[i] + " " + least[i] + ";"), 1);
    }
    fault("across", 1, 6);
    fault("across  ", 1, 8);
    fault("across 2", 1, 8);
    fault("across ;", 1, 7);
    fault("across across", 1, 7);
    fault("acros 2;", 1, 0);
    fault("acrosss 2;", 1, 0);
    fault("abcdefghi 2;", 1, 0);
    fault("abcdefgh 2;", 1, 0);
    fault(";", 1, 0);
    fault(" 7;", 1, 1);
    fault("rope 3;;", 1, 7);
    fault("rope 3.", 1, 6);
    fault("Rope 3;", 1, 0);
    fault("rope\t3;", 1, 4);
    fault("rope 3;\r", 1, 7);
    fault("rope 3;\0", 1, 7);
    fault("rope 3;\u00e9", 1, 7);
    fault("rope -3;", 1, 5);
    fault("rope 3 high 3;", 1, 7);
    fault("rope 3;rope 9;", 3, 7);
    fault("rope 3;rope", 3, 7);
    fault("lift;", 1, 4);
    fault("lift 100;", 2, 5);
    fault("lift 1 2 3 4;", 4, 11);
    fault("lift 1 2 3 100;", 2, 11);
    fault("lift 1 2 3 000001;", 1, 11);
    fault("lift 1 2 3 x", 1, 11);
    fault("lift 1 2;lift 3;", 3, 9);
    fault("lift 1 2", 1, 8);
    fault("window 101;", 2, 7);
    fault("window;", 1, 6);
    fault("window 1 2 3 4 5 6 7;", 4, 19);
    fault("window 1 2 3 4 5 6 101;", 2, 19);
    fault("window 1;window 2;", 3, 9);
    KitePower x = new KitePower();
    Due.tape(x, "rope 9;").kite();
    Due.tape(x, "rope 8;").kite();
    DUE.is(6, "fault(0)", x.fault(0), 0);
    DUE.is(6, "fault(1)", x.fault(1), KitePower.NONE);
    DUE.is(6, "fault(2)", x.fault(2), KitePower.NONE);
    DUE.is(6, "fault(-1)", x.fault(-1), KitePower.NONE);
  }

  private static void cut(String text, int length, int answer, int place) {
    KitePower x = Due.tape(new KitePower(), text);
    x.end(length);
    DUE.is(4, "kite() of " + length + " of '" + text + "'", x.kite(), answer);
    DUE.is(6, "fault(1) of " + length + " of '" + text + "'", x.fault(1), place);
  }

  /** What stood on the tape behind its end is not read. */
  private static void staleBytes() {
    cut("rope 3;high", 7, 1, KitePower.NONE);
    cut("rope 33;", 6, KitePower.NONE, 6);
    cut("rope   ", 4, KitePower.NONE, 4);
    cut("rope 3;rope", 9, KitePower.NONE, 7);
    cut("rope 3; ;", 8, 1, KitePower.NONE);
    cut("unit 111;", 7, KitePower.NONE, 7);
  }

  private static void fullTape() {
    KitePower x = new KitePower();
    DUE.is(4, "800 bytes", Due.tape(x, " ".repeat(793) + "rope 3;").kite(), 1);
    DUE.is(4, "blanks behind", Due.tape(x, "rope 3;" + "\n".repeat(793)).kite(), 1);
    DUE.is(4, "800 letters", Due.tape(x, "a".repeat(800)).kite(), KitePower.NONE);
    DUE.is(6, "fault(1)", x.fault(1), 0);
    DUE.is(4, "a number at the end", Due.tape(x, " ".repeat(794) + "rope 3").kite(), KitePower.NONE);
    DUE.is(6, "fault(1)", x.fault(1), 800);
    DUE.is(4, "a word at the end", Due.tape(x, " ".repeat(796) + "rope").kite(), KitePower.NONE);
    DUE.is(6, "fault(1)", x.fault(1), 800);
  }

  private static void kiteForgets() {
    KitePower x = new KitePower();
    Due.rules(x, "when rope is 0 do 0 stay out;");
    for (int i = 0; i < 6; i++) {
      Due.keep(x, i, 0, 1, 17);
    }
    x.stand(0, 2);
    x.stand(1, 2);
    x.stand(2, 2);
    DUE.is(30, "field()", x.field(), 1600);
    x.read(7, 0, 0, 0, 0, 5);
    x.right(8, 0, 0, 6);
    x.wind(3, 0, 0, 4, 5);
    x.law(0, 1, 50);
    x.tired(9);
    x.hidden(3);
    DUE.is(4, "a kite with a fault", Due.tape(x, "x").kite(), KitePower.NONE);
    DUE.is(4, "lines stay", x.told(11), 1);
    DUE.is(4, "loops stay", x.count(12), 2);
    DUE.is(4, "stands stay", x.count(2), 3);
    DUE.is(31, "the field stays", x.fielded(), 5);
    DUE.is(4, "readings stay", x.count(4), 1);
    DUE.is(19, "keep(5) behind a fault", x.keep(5), 2);
    DUE.is(4, "kite()", Due.tape(x, "").kite(), 0);
    DUE.is(4, "lines", x.told(11), 0);
    for (int i = 10; i < 16; i++) {
      DUE.is(4, "loops", x.count(i), 0);
    }
    DUE.is(4, "stands", x.count(2), 0);
    DUE.is(31, "fielded()", x.fielded(), 0);
    DUE.is(30, "field()", x.field(), 0);
    DUE.is(4, "readings", x.count(4), 0);
    DUE.is(4, "rightings", x.count(5), 0);
    DUE.is(19, "keep(2)", x.keep(2), KitePower.STATE);
    DUE.is(18, "judged(4)", x.judged(4), 1);
    DUE.is(4, "winds stay", x.winds(0, 0, 3), 405);
    DUE.is(10, "winds' step stays", x.wind(2, 0, 0, 4, 5), KitePower.RANGE);
    DUE.is(4, "laws stay", x.count(3), 1);
    DUE.is(4, "tired stays", x.count(6), 9);
    DUE.is(4, "hidden stays", x.hidden(3), 3);
    DUE.is(36, "the step of READ is 0", x.read(0, 0, 0, 0, 0, 5), 0);
    Due.windsAll(x, 0, 10, 10);
    x.wind(3, 0, 0, 10, 10);
    Due.keep(x, 0, 0, 1, 17);
    x.stand(0, 0);
    x.stand(20, 0);
    x.stand(40, 0);
    DUE.is(30, "another field", x.field(), 2400);
    DUE.is(31, "fielded()", x.fielded(), 7);
  }

  private static void rules() {
    KitePower x = new KitePower();
    String line = "when pull above 0 and height below 5 and rope is 3 do 1 down in;";
    DUE.is(5, "no lines", Due.rules(x, ""), 0);
    StringBuilder eight = new StringBuilder();
    for (int i = 0; i < 8; i++) {
      eight.append(line).append('\n');
    }
    DUE.is(5, "eight lines", Due.rules(x, eight.toString()), 8);
    DUE.is(7, "told(11)", x.told(11), 8);
    DUE.is(5, "nine lines", Due.rules(x, eight + line), KitePower.NONE);
    DUE.is(6, "fault(0)", x.fault(0), 4);
    DUE.is(6, "fault(1)", x.fault(1), 8 * 65);
    DUE.is(5, "they stay", x.told(11), 8);
    DUE.is(5, "other words", Due.rules(x, "when column is 99999 do 0 left hold;"
        + "when row is 0 do 0 right out;when row is 0do0up out;"), 3);
    DUE.is(5, "none again", Due.rules(x, " "), 0);
    DUE.is(7, "told(11)", x.told(11), 0);
  }

  private static void ruleFault(String text, int kind, int place) {
    KitePower x = new KitePower();
    Due.rules(x, "when row is 0 do 0 stay hold;when row is 1 do 0 stay hold;");
    DUE.is(5, "rules() of '" + text + "'", Due.rules(x, text), KitePower.NONE);
    DUE.is(6, "fault(0) of '" + text + "'", x.fault(0), kind);
    DUE.is(6, "fault(1) of '" + text + "'", x.fault(1), place);
    DUE.is(5, "the rules stay", x.told(11), 2);
  }

  private static void ruleFaults() {
    ruleFault("do", 1, 0);
    ruleFault("when", 1, 4);
    ruleFault("when pulls", 1, 5);
    ruleFault("when pull over", 1, 10);
    ruleFault("when pull is x", 1, 13);
    ruleFault("when pull is 123456 do 0 stay hold;", 1, 13);
    ruleFault("when pull is 1 or", 1, 15);
    ruleFault("when pull is 1;", 1, 14);
    ruleFault("when pull is 1 do stay", 1, 18);
    ruleFault("when pull is 1 do 2 stay hold;", 2, 18);
    ruleFault("when pull is 1 do 0 hold", 1, 20);
    ruleFault("when pull is 1 do 0 stay stay", 1, 25);
    ruleFault("when pull is 1 do 0 stay hold", 1, 29);
    ruleFault("when pull is 1 do 0 stay hold when", 1, 30);
    ruleFault("when row is 1 and row is 1 and row is 1 and", 4, 40);
    ruleFault("when row is 1 and row is 1 and row is 1 when", 1, 40);
    ruleFault("when row is 1 and row is 1 and do", 1, 31);
    KitePower x = Due.kite("lift 1;");
    DUE.is(5, "a slant of this kite", Due.rules(x, "when row is 0 do 1 up in;"), KitePower.NONE);
    DUE.is(6, "fault(0)", x.fault(0), 2);
    Due.tape(x, "lift 1 1 1;").kite();
    DUE.is(5, "a slant of this kite", Due.rules(x, "when row is 0 do 2 up in;"), 1);
  }

  private static void told() {
    KitePower x = Due.kite("across 3;lift 4 5 6;window 9;");
    DUE.is(7, "told(-1)", x.told(-1), KitePower.NONE);
    DUE.is(7, "told(10)", x.told(10), 3);
    DUE.is(7, "told(12)", x.told(12), KitePower.NONE);
    DUE.is(7, "told(19)", x.told(19), KitePower.NONE);
    DUE.is(7, "told(22)", x.told(22), 6);
    DUE.is(7, "told(23)", x.told(23), KitePower.NONE);
    DUE.is(7, "told(32)", x.told(32), 9);
    DUE.is(7, "told(33)", x.told(33), KitePower.NONE);
    DUE.is(7, "told(36)", x.told(36), KitePower.NONE);
    DUE.is(7, "told(least)", x.told(Integer.MIN_VALUE), KitePower.NONE);
    DUE.is(7, "told(most)", x.told(Integer.MAX_VALUE), KitePower.NONE);
  }
}
