import java.io.IOException;
import java.nio.file.Files;
import java.nio.file.Path;
import java.util.ArrayList;
import java.util.regex.Matcher;
import java.util.regex.Pattern;

/** README.md's example: each call answers what stands behind it, up to a ":". */
final class ReadmeTest {
  private static final Pattern CALL = Pattern.compile("vault\\.(\\w+\\(.*\\)); +// ([^:]+)(:.*)?");

  private ReadmeTest() {}

  public static void main(String[] args) throws IOException {
    ArrayList<String> lines = new ArrayList<>();
    boolean isCode = false;
    for (String line : Files.readAllLines(Path.of(args[0]))) {
      Matcher call = CALL.matcher(line);
      if (line.startsWith("```")) {
        isCode = line.equals("```java");
      } else if (isCode && call.matches()) {
        lines.add(call.group(1) + " -> " + call.group(2).replace('"', '\''));
      } else if (isCode && !line.isEmpty() && !line.equals("Longtapevault vault = new Longtapevault();")) {
        throw new IllegalArgumentException("a line that is not looked at: " + line);
      }
    }
    Sentences.sentence("README.md", lines.toArray(new String[0]));
    System.out.println("readme: " + lines.size() + " calls, " + Sentences.wrong() + " of them not as told");
    if (lines.isEmpty() || Sentences.wrong() != 0) {
      System.exit(1);
    }
  }
}
