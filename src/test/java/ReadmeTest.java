import java.lang.reflect.Method;
import java.lang.reflect.Modifier;
import java.nio.charset.StandardCharsets;
import java.nio.file.Files;
import java.nio.file.Path;

/** README.md: its examples answer as it tells, and it names each call and each test. */
public final class ReadmeTest {
  private static final Due DUE = new Due("ReadmeTest");

  public static void main(String[] args) throws Exception {
    loopsAndHours();
    textsAndRows();
    String readme = Files.readString(Path.of("README.md"), StandardCharsets.UTF_8);
    calls(readme);
    tests(readme);
    DUE.end();
  }

  private static void loopsAndHours() {
    DUE.by("the example of loops and hours");
    KitePower house = new KitePower();
    DUE.is("wind", house.wind(0, 8, 0, 9, 12), 1);
    DUE.is("best", house.best(8), 4);
    DUE.is("the sum", house.looped(0), 2600);
    DUE.is("the first act", house.looped(10), 7);
    DUE.is("plan", house.plan(6, 18, 60, 500, 500, 2000), 506000);
    DUE.is("planned", house.planned(8), 1);
  }

  private static void textsAndRows() {
    DUE.by("the example of texts and rows");
    KitePower house = new KitePower();
    house.wind(0, 8, 0, 9, 12);
    feedText(house, "across 3; high 2; rope 4; lift 10 2; window 80 100 80;");
    DUE.is("kite", house.kite(), 5);
    feedText(house, "when rope above 2 do 1 stay in; when rope below 3 do 0 right out;");
    DUE.is("rules", house.rules(), 2);
    DUE.is("fly", house.fly(0, 8, 120, 60, false), 120);
    DUE.is("the fate", house.flown(0), 0);
    feedText(house, "1A");
    DUE.is("judge", house.judge(0, 8), 2);
    DUE.is("keep", house.keep(0), 2);
  }

  /** As README.md has it. */
  static void feedText(KitePower house, String text) {
    int[] five = new int[5];
    house.end(0);
    for (int from = 0; from < text.length(); from += 20) {
      for (int i = 0; i < 5; i++) {
        for (int k = 0; k < 4; k++) {
          int at = from + 4 * i + k;
          five[i] = five[i] << 8 | (at < text.length() ? text.charAt(at) : 0);
        }
      }
      house.feed(five[0], five[1], five[2], five[3], five[4]);
    }
    house.end(text.length());
  }

  private static void calls(String readme) {
    DUE.by("each call is named");
    for (Method m : KitePower.class.getDeclaredMethods()) {
      if (Modifier.isPublic(m.getModifiers())) {
        DUE.is(m.getName(), readme.contains("`" + m.getName() + "`") ? 1 : 0, 1);
      }
    }
  }

  private static void tests(String readme) throws Exception {
    DUE.by("each test is named");
    for (String name : Path.of("src/test/java").toFile().list()) {
      if (name.endsWith("Test.java")) {
        DUE.is(name, readme.contains("`" + name.replace(".java", "`")) ? 1 : 0, 1);
      }
    }
  }
}
