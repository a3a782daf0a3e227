import java.lang.reflect.InvocationTargetException;
import java.lang.reflect.Method;
import java.util.TreeMap;

/**
 * Tells a sentence of the document as a run of calls on a new vault, line by line:
 *   call(arguments) -> answer    the answer that is due (INDEX, ARGUMENT or STATE for an exception);
 *   call(arguments) => answer    and nothing is changed by it;
 *   call(arguments)              neither an exception nor -9; with "n * " ahead: n times;
 *   each call(#) = answer ..     the answers for 0, 1, .. in place of #;
 *   keys k ..                    puts RECORDS with these KEYS, SEED 0, 1, .., LONG 0;
 *   longs n ..                   puts RECORDS with these LONGS, KEY and SEED 1, 2, ..;
 *   desk n long                  puts n RECORDS as LONGS does, each as LONG;
 *   new                          goes on with another vault.
 * Where -9 or an exception is due, it is also looked whether nothing was changed.
 */
final class Sentences {
  // Nothing is promised about what comes behind.
  private static final int MOST_CALLS = 512;
  private static final TreeMap<String, Method> FACE = new TreeMap<>();

  private static int told = 0;
  private static int lines = 0;
  private static int wrong = 0;

  private final String sentence;
  private Longtapevault vault = new Longtapevault();
  private int calls = 0;

  static {
    for (Method method : Longtapevault.class.getDeclaredMethods()) {
      FACE.put(method.getName(), method);
    }
  }

  private Sentences(String sentence) {
    this.sentence = sentence;
  }

  static void sentence(String sentence, String... lines) {
    told++;
    Sentences run = new Sentences(sentence);
    for (String line : lines) {
      run.tell(line);
    }
  }

  /** Counts what a test told by itself, beside the lines. */
  static void due(String sentence, Object want, Object got) {
    lines++;
    if (!want.equals(got)) {
      wrong++;
      System.out.println("\"" + sentence + "\": answered " + got + ", due is " + want);
    }
  }

  static int wrong() {
    return wrong;
  }

  static String total() {
    return "edges: " + told + " sentences, " + lines + " lines, " + wrong + " of them not as due";
  }

  private void tell(String line) {
    if (line.equals("new")) {
      vault = new Longtapevault();
      calls = 0;
    } else if (line.startsWith("keys ") || line.startsWith("longs ") || line.startsWith("desk ")) {
      putAll(line.split(" "));
    } else if (line.startsWith("each ")) {
      each(line, line.substring(5, line.indexOf(" = ")), line.substring(line.indexOf(" = ") + 3).split(" "));
    } else if (line.contains(" * ")) {
      int times = Integer.parseInt(line.substring(0, line.indexOf(" * ")));
      for (int i = 0; i < times; i++) {
        fine(line.substring(line.indexOf(" * ") + 3));
      }
    } else if (line.contains(" -> ") || line.contains(" => ")) {
      int arrow = Math.max(line.indexOf(" -> "), line.indexOf(" => "));
      answer(line, line.substring(0, arrow), line.substring(arrow + 4), line.startsWith(" => ", arrow));
    } else {
      fine(line);
    }
  }

  private void putAll(String[] words) {
    boolean isDesk = words[0].equals("desk");
    int records = isDesk ? Integer.parseInt(words[1]) : words.length - 1;
    for (int i = 1; i <= records; i++) {
      String word = words[isDesk ? 2 : i];
      fine(words[0].equals("keys") ? "put(" + word + ", 0, " + (i - 1) + ", 0)" : "put(" + i + ", 0, " + i + ", " + word + ")");
    }
  }

  private void each(String line, String call, String[] wants) {
    for (int i = 0; i < wants.length; i++) {
      due(sentence + "\", \"" + line + "\", \"" + i, wants[i], call(call.replace("#", String.valueOf(i))));
    }
  }

  private void fine(String line) {
    String got = call(line);
    lines++;
    if (isRefused(got)) {
      wrong++;
      System.out.println("\"" + sentence + "\": " + line + " answered " + got);
    }
  }

  private void answer(String line, String call, String want, boolean isStill) {
    boolean isLooked = isStill || isRefused(want);
    String before = isLooked ? look() : "";
    due(sentence + "\", \"" + line, want, call(call));
    String after = isLooked ? look() : "";
    if (!before.equals(after)) {
      wrong++;
      System.out.println("\"" + sentence + "\": something was changed by " + line);
    }
  }

  private static boolean isRefused(String answer) {
    return answer.equals("-9") || answer.equals("INDEX") || answer.equals("ARGUMENT") || answer.equals("STATE");
  }

  /** All that the digest holds, and the REFUSALS, of which it holds but the length. */
  private String look() {
    return call("digest()") + " " + call("refusals()");
  }

  private String call(String call) {
    calls++;
    if (calls > MOST_CALLS) {
      throw new IllegalStateException(sentence + ": more than " + MOST_CALLS + " calls");
    }
    int open = call.indexOf('(');
    Method method = FACE.get(call.substring(0, open));
    try {
      Object got = method.invoke(vault, arguments(call.substring(open + 1, call.length() - 1)));
      return got instanceof String text ? "'" + text + "'" : String.valueOf(got);
    } catch (InvocationTargetException e) {
      return nameOf(e.getCause());
    } catch (ReflectiveOperationException e) {
      throw new IllegalStateException(call, e);
    }
  }

  /** The exception itself is due, thrown by the vault's own code, and no class below it, such as the machine would throw. */
  private static String nameOf(Throwable thrown) {
    Class<?> kind = thrown.getClass();
    StackTraceElement[] trace = thrown.getStackTrace();
    String thrower = trace.length == 0 ? "the machine" : trace[0].getClassName();
    return !thrower.startsWith("Longtapevault") ? kind.getName() + " of " + thrower
        : kind == IndexOutOfBoundsException.class ? "INDEX"
        : kind == IllegalArgumentException.class ? "ARGUMENT"
        : kind == IllegalStateException.class ? "STATE" : kind.getName();
  }

  private static Object[] arguments(String told) {
    String[] words = told.isEmpty() ? new String[0] : told.split(", ");
    Object[] arguments = new Object[words.length];
    for (int i = 0; i < words.length; i++) {
      String word = words[i];
      arguments[i] = word.equals("true") || word.equals("false") ? (Object) Boolean.valueOf(word)
          : word.equals("MIN") ? (Object) Integer.MIN_VALUE
          : word.equals("MAX") ? (Object) Integer.MAX_VALUE : (Object) Integer.valueOf(word);
    }
    return arguments;
  }
}
