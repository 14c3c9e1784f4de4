import java.lang.reflect.Constructor;
import java.lang.reflect.Field;
import java.lang.reflect.Method;
import java.lang.reflect.Modifier;
import java.nio.charset.StandardCharsets;
import java.nio.file.Files;
import java.nio.file.Path;
import java.util.ArrayList;
import java.util.Arrays;
import java.util.List;
import java.util.Set;
import java.util.TreeSet;
import java.util.regex.Matcher;
import java.util.regex.Pattern;

/** The rules of LANGUAGE.md, as far as the source and the compiled classes show them. */
public final class LanguageTest {
  private static final String FACE = "apart best breach count end fault feed field fielded fit flown "
      + "fly gives held hidden judge judged keep kite law leads looped next pull pulls plan planned "
      + "read right rounds rules safe shift stand state tired told wind winds";
  private static final String LIBRARY = "Arrays.fill System.arraycopy Math.max Math.min Math.abs "
      + "Integer.bitCount";
  private static int wrong = 0;

  public static void main(String[] args) throws Exception {
    String source = Files.readString(Path.of("src/main/java/KitePower.java"),
        StandardCharsets.ISO_8859_1);
    String code = source.replaceAll("(?s)/\\*.*?\\*/", " ").replaceAll("//[^\n]*", " ")
        .replaceAll("'.'", "0");
    words(code.replaceAll("\"[^\"]*\"", "\"\""));
    methods(code);
    face();
    System.out.println("LanguageTest: " + wrong + " rules broken");
    if (wrong != 0) {
      System.exit(1);
    }
  }

  private static void rule(int number, boolean kept, String what) {
    if (!kept) {
      wrong++;
      System.out.println("rule " + number + ": " + what);
    }
  }

  private static void words(String code) {
    String banned = "\\b(throw|throws|try|catch|finally|synchronized|assert|yield|record|double|float|"
        + "package|protected|volatile|transient|native|strictfp|hashCode|equals|toString|Thread|"
        + "Random|nanoTime|currentTimeMillis|println)\\b|->|::|\\.\\.\\.|Exact\\b|static\\s*\\{";
    Matcher m = Pattern.compile(banned).matcher(code);
    rule(6, !m.find(), m.reset().find() ? "'" + m.group() + "' stands in it" : "");
    for (String line : code.split("\n")) {
      rule(4, !line.startsWith("import") || line.equals("import java.util.Arrays;"), line);
    }
    Set<String> used = new TreeSet<>();
    Matcher calls = Pattern.compile("\\b(Arrays|System|Math|Integer|Long)\\.\\w+").matcher(code);
    while (calls.find()) {
      used.add(calls.group());
    }
    used.removeAll(Arrays.asList(LIBRARY.split(" ")));
    rule(4, used.isEmpty(), "the library: " + used);
    rule(3, !Pattern.compile("\\[\\]\\s*\\[\\]").matcher(code).find(), "arrays of arrays");
    int classes = 0;
    Matcher kinds = Pattern.compile("\\b(class|interface|enum)\\s+\\w+").matcher(code);
    while (kinds.find()) {
      classes++;
    }
    rule(11, classes <= 12, classes + " classes");
  }

  /** How long methods are, how many parameters they take, and where objects are made. */
  private static void methods(String code) {
    String[] lines = code.split("\n");
    Pattern head = Pattern.compile("^ {2,4}(?! )[\\w\\[\\] ]*?\\b(\\w+)\\(([^)]*)\\) \\{$");
    for (int i = 0; i < lines.length; i++) {
      Matcher m = head.matcher(lines[i]);
      if (!m.find()) {
        continue;
      }
      String indent = lines[i].substring(0, lines[i].length() - lines[i].stripLeading().length());
      int last = i;
      while (last + 1 < lines.length && !lines[last].equals(indent + "}")) {
        last++;
      }
      rule(11, last - i < 60, m.group(1) + " has " + (last - i + 1) + " lines");
      rule(11, m.group(2).split(",").length <= 7, m.group(1) + " has many parameters");
      boolean isConstructor = Character.isUpperCase(m.group(1).charAt(0));
      for (int k = i; k <= last; k++) {
        rule(12, isConstructor || !lines[k].contains("new "), "made in " + m.group(1));
      }
    }
  }

  private static void face() {
    Class<?> house = KitePower.class;
    Set<String> face = new TreeSet<>(Arrays.asList(FACE.split(" ")));
    Set<String> found = new TreeSet<>();
    rule(1, Modifier.isFinal(house.getModifiers()), "the class is final");
    for (Method m : house.getDeclaredMethods()) {
      if (Modifier.isPublic(m.getModifiers())) {
        rule(1, found.add(m.getName()), m.getName() + " twice");
      } else {
        rule(1, Modifier.isPrivate(m.getModifiers()), m.getName() + " is not private");
        rule(1, !face.contains(m.getName()), "a private " + m.getName());
      }
    }
    rule(1, found.equals(face), "the face is " + found);
    rule(1, house.getDeclaredConstructors().length == 1, "one constructor");
    fields(house);
    for (Class<?> inside : house.getDeclaredClasses()) {
      rule(1, Modifier.isStatic(inside.getModifiers()), inside + " is not static");
      for (Method m : inside.getDeclaredMethods()) {
        rule(1, !face.contains(m.getName()), inside + " has a " + m.getName());
      }
      fields(inside);
    }
  }

  private static void fields(Class<?> kind) {
    List<String> own = new ArrayList<>();
    for (Field f : kind.getDeclaredFields()) {
      if (Modifier.isStatic(f.getModifiers())) {
        rule(5, Modifier.isFinal(f.getModifiers()), f + " is not final");
        Class<?> type = f.getType();
        rule(5, List.of(int.class, long.class, boolean.class, char.class, String.class, int[].class,
            long[].class, char[].class, byte[].class).contains(type), f + " is of another type");
      } else {
        own.add(f.getName());
      }
    }
    rule(11, own.size() <= 20, kind + " has " + own.size() + " fields");
    for (Constructor<?> c : kind.getDeclaredConstructors()) {
      rule(11, c.getParameterCount() <= 7, c + " has many parameters");
    }
  }
}
