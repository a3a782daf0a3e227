import java.io.IOException;
import java.lang.reflect.Field;
import java.lang.reflect.Method;
import java.lang.reflect.Modifier;
import java.nio.file.Files;
import java.nio.file.Path;
import java.util.List;
import java.util.TreeSet;
import java.util.regex.Matcher;
import java.util.regex.Pattern;

/** Those rules of ../shared/LANGUAGE.md that can be told from the lines of the program or from its classes. */
final class LanguageTest {
  private static final TreeSet<String> FACE = new TreeSet<>(List.of("put", "clear", "take", "sort", "update", "store", "copy", "lose",
      "dust", "snap", "open", "next", "back", "stop", "knock", "deskAt", "runs", "passes", "split", "refusals", "recordOf", "ofFile",
      "dataOf", "find", "ofBlock", "byteAt", "track", "ofReel", "map", "drive", "count", "isSound", "digest"));
  private static final List<String> REFUSED = List.of("->", "::", "\\btry\\b", "\\bcatch\\b", "\\bfinally\\b", "\\bassert\\b",
      "\\bsynchronized\\b", "\\bprotected\\b", "\\bObject\\b", "\\bpackage\\b", "\" \\+", "\\+ \"", "\\bvar\\b", "\\bdouble\\b",
      "static \\{", "\\bnew int\\[\\](?! )", "\\b(equals|hashCode|toString)\\(.*\\{");

  private static int wrong = 0;

  private static void want(boolean isSo, String told) {
    if (!isSo) {
      wrong++;
      System.out.println("language: " + told);
    }
  }

  public static void main(String[] args) throws IOException {
    List<String> lines = Files.readAllLines(Path.of(args[0]));
    face();
    classes();
    words(lines);
    methods(lines);
    for (String rule : CodeRules.broken()) {
      want(false, rule);
    }
    System.out.println("language: " + wrong + " rules broken");
    if (wrong != 0) {
      System.exit(1);
    }
  }

  private static void face() {
    want(Modifier.isFinal(Longtapevault.class.getModifiers()), "the class is not final (1)");
    TreeSet<String> open = new TreeSet<>();
    for (Method m : Longtapevault.class.getDeclaredMethods()) {
      if (Modifier.isPrivate(m.getModifiers())) {
        want(!FACE.contains(m.getName()), m.getName() + " is private and bears a name of the face (1)");
      } else {
        want(Modifier.isPublic(m.getModifiers()), m.getName() + " is neither public nor private (1)");
        open.add(m.getName());
      }
    }
    want(open.equals(FACE), "the face is " + open + " (1)");
    for (Field f : Longtapevault.class.getDeclaredFields()) {
      want(Modifier.isPrivate(f.getModifiers()), f.getName() + " is not private (1)");
    }
  }

  private static void classes() {
    Class<?>[] inside = Longtapevault.class.getDeclaredClasses();
    want(inside.length <= 11, "there are more than twelve classes (11)");
    for (Class<?> c : inside) {
      want(Modifier.isStatic(c.getModifiers()) && !Modifier.isPublic(c.getModifiers()), c + " (1, 2)");
      fields(c);
    }
    fields(Longtapevault.class);
  }

  private static void fields(Class<?> c) {
    int own = 0;
    for (Field f : c.getDeclaredFields()) {
      boolean isConstant = Modifier.isStatic(f.getModifiers());
      want(!isConstant || (Modifier.isFinal(f.getModifiers()) && f.getType() == int.class), f + " (5)");
      own += isConstant ? 0 : 1;
    }
    want(own <= 20, c + " has more than twenty fields (11)");
    for (Method m : c.getDeclaredMethods()) {
      want(m.getParameterCount() <= 7, m + " (11)");
    }
  }

  private static void words(List<String> lines) {
    for (int i = 0; i < lines.size(); i++) {
      String line = lines.get(i);
      want(!line.startsWith("import") || line.equals("import java.util.ArrayList;"), line + " (4)");
      for (char sign : line.toCharArray()) {
        want(sign > 0 && sign < 128, "line " + (i + 1) + " has a sign that is not 1 to 127 (4)");
      }
      String code = line.replaceAll("//.*|^ */?\\*.*|\"[^\"]*\"|'[^']*'", "");
      for (String refused : REFUSED) {
        want(!Pattern.compile(refused).matcher(code).find(), "line " + (i + 1) + " has " + refused + ": " + line.strip());
      }
    }
  }

  private static void methods(List<String> lines) {
    Pattern begin = Pattern.compile("^( +)[\\w<>\\[\\] ]+\\(.*\\)?.*$");
    int from = -1;
    String indent = "";
    for (int i = 0; i < lines.size(); i++) {
      Matcher m = begin.matcher(lines.get(i));
      boolean isMember = m.matches() && (m.group(1).length() == 2 || m.group(1).length() == 4);
      if (from < 0 && isMember && lines.get(i).endsWith("{") && !lines.get(i).contains(" class ")) {
        from = i;
        indent = m.group(1);
      } else if (from >= 0 && lines.get(i).equals(indent + "}")) {
        want(i - from < 60, "the method at line " + (from + 1) + " is longer than sixty lines (11)");
        from = -1;
      }
    }
  }
}
