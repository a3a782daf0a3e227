import java.io.DataInputStream;
import java.io.IOException;
import java.io.InputStream;
import java.util.ArrayList;
import java.util.List;
import java.util.TreeMap;
import java.util.TreeSet;

/** Those rules of ../shared/LANGUAGE.md that can be told from what the compiler made of the program. */
final class CodeRules {
  private static final String PROGRAM = "Longtapevault";
  private static final String ROW = PROGRAM + "$Row";
  private static final int MOST_DEEP = 8;
  private static final TreeSet<String> LIBRARY = new TreeSet<>(List.of("java/lang/Object.<init>()V", "java/lang/Math.min(II)I",
      "java/lang/Math.max(II)I", "java/lang/Integer.bitCount(I)I", "java/lang/StringBuilder.<init>()V",
      "java/lang/StringBuilder.append(C)Ljava/lang/StringBuilder;", "java/lang/StringBuilder.append(I)Ljava/lang/StringBuilder;",
      "java/lang/StringBuilder.toString()Ljava/lang/String;", "java/util/ArrayList.<init>()V",
      "java/util/ArrayList.add(Ljava/lang/Object;)Z", "java/util/ArrayList.get(I)Ljava/lang/Object;", "java/util/ArrayList.size()I",
      "java/util/ArrayList.remove(I)Ljava/lang/Object;", "java/lang/IllegalStateException.<init>(Ljava/lang/String;)V",
      "java/lang/IllegalArgumentException.<init>(Ljava/lang/String;)V",
      "java/lang/IndexOutOfBoundsException.<init>(Ljava/lang/String;)V"));

  // Opcodes of the class file format.
  private static final int LAST_CONSTANT = 8;
  private static final int FIRST_POSITIVE = 4;
  private static final int BIPUSH = 0x10;
  private static final int SIPUSH = 0x11;
  private static final int PUTSTATIC = 0xb3;
  private static final int FIRST_INVOKE = 0xb6;
  private static final int INVOKEDYNAMIC = 0xba;
  private static final int NEWARRAY = 0xbc;
  private static final int ANEWARRAY = 0xbd;
  private static final int ATHROW = 0xbf;
  private static final int CHECKCAST = 0xc0;
  private static final int MULTIANEWARRAY = 0xc5;

  private final String name;
  private final ArrayList<String> broken;
  private final TreeMap<String, TreeSet<String>> calls;
  private Object[] constants = {};
  private String method = "";
  private boolean isFace = false;

  private CodeRules(String name, ArrayList<String> broken, TreeMap<String, TreeSet<String>> calls) {
    this.name = name;
    this.broken = broken;
    this.calls = calls;
  }

  /** What is broken, a line each. */
  static List<String> broken() throws IOException {
    ArrayList<String> broken = new ArrayList<>();
    TreeMap<String, TreeSet<String>> calls = new TreeMap<>();
    read(Longtapevault.class, broken, calls);
    for (Class<?> inside : Longtapevault.class.getDeclaredClasses()) {
      read(inside, broken, calls);
    }
    for (String method : calls.keySet()) {
      int deep = depth(method, calls, 1);
      if (deep > MOST_DEEP) {
        broken.add(method + ": calls go " + deep + " deep (11)");
      }
    }
    return broken;
  }

  /** Ends on recursion, too, since it is told as too deep. */
  private static int depth(String method, TreeMap<String, TreeSet<String>> calls, int ahead) {
    int deepest = ahead;
    for (String called : calls.get(method)) {
      deepest = Math.max(deepest, ahead > MOST_DEEP ? ahead : depth(called, calls, ahead + 1));
    }
    return deepest;
  }

  private static void read(Class<?> c, ArrayList<String> broken, TreeMap<String, TreeSet<String>> calls) throws IOException {
    try (InputStream in = c.getResourceAsStream(c.getName() + ".class")) {
      new CodeRules(c.getName(), broken, calls).readClass(new DataInputStream(in));
    }
  }

  private void readClass(DataInputStream in) throws IOException {
    in.skipNBytes(8);
    readConstants(in);
    in.skipNBytes(6);
    in.skipNBytes(2L * in.readUnsignedShort());
    readMembers(in, false);
    readMembers(in, true);
  }

  /** Texts stand as they are, numbers of other constants as int[]. */
  private void readConstants(DataInputStream in) throws IOException {
    constants = new Object[in.readUnsignedShort()];
    for (int i = 1; i < constants.length; i++) {
      int tag = in.readUnsignedByte();
      switch (tag) {
        case 1:
          constants[i] = in.readUTF();
          break;
        case 3, 4:
          in.skipNBytes(4);
          break;
        case 5, 6:
          in.skipNBytes(8);
          i++;
          break;
        case 7, 8, 16, 19, 20:
          constants[i] = new int[] {in.readUnsignedShort()};
          break;
        case 15:
          in.skipNBytes(3);
          break;
        default:
          constants[i] = new int[] {in.readUnsignedShort(), in.readUnsignedShort()};
      }
    }
  }

  private int part(int constant, int of) {
    return ((int[]) constants[constant])[of];
  }

  private String text(int constant) {
    return (String) constants[constant];
  }

  private String called(int constant) {
    int nameAndType = part(constant, 1);
    return text(part(part(constant, 0), 0)) + "." + text(part(nameAndType, 0)) + text(part(nameAndType, 1));
  }

  private void readMembers(DataInputStream in, boolean areMethods) throws IOException {
    int members = in.readUnsignedShort();
    for (int m = 0; m < members; m++) {
      boolean isPublic = (in.readUnsignedShort() & 1) != 0;
      String called = text(in.readUnsignedShort());
      method = name + "." + called + text(in.readUnsignedShort());
      isFace = isPublic && name.equals(PROGRAM) && !called.equals("<init>");
      if (areMethods) {
        calls.put(method, new TreeSet<>());
      }
      int attributes = in.readUnsignedShort();
      for (int a = 0; a < attributes; a++) {
        String kind = text(in.readUnsignedShort());
        int length = in.readInt();
        if (kind.equals("Code")) {
          readCode(in, length);
        } else {
          in.skipNBytes(length);
        }
      }
    }
  }

  private void readCode(DataInputStream in, int length) throws IOException {
    in.skipNBytes(4);
    byte[] code = new byte[in.readInt()];
    in.readFully(code);
    int caught = in.readUnsignedShort();
    in.skipNBytes(length - 10 - code.length);
    want(caught == 0, "catches, where nothing that it calls throws (6)");
    want(!method.contains("<clinit>"), "static state is made (5)");
    int behind = -1;
    for (int at = 0; at < code.length; at += lengthAt(code, at)) {
      instruction(code, at, behind);
      behind = at;
    }
  }

  private void instruction(byte[] code, int at, int behind) {
    int opcode = code[at] & 255;
    if (opcode >= FIRST_INVOKE && opcode < INVOKEDYNAMIC) {
      call(called(shortAt(code, at + 1)));
    }
    boolean isRow = name.equals(ROW);
    want(opcode != INVOKEDYNAMIC && opcode != PUTSTATIC, "a lambda, a joined text or a static field that changes (3, 5, 10)");
    want(opcode != ANEWARRAY && opcode != MULTIANEWARRAY, "an array of arrays or objects: none is looked for here (3)");
    want(!isArrayAccess(opcode) && opcode != NEWARRAY || isRow, "an array outside Row, which looks at each index (7)");
    want(!isDivision(opcode) || isConstantNotNought(code, behind), "a divisor that is not written out (7)");
    want(opcode != ATHROW || isFace, "throws, and is not of the face (6)");
    want(opcode != CHECKCAST || isGet(code, behind), "a cast that is not that of an ArrayList's element (6)");
  }

  private void call(String called) {
    if (called.startsWith(PROGRAM)) {
      calls.get(method).add(called);
    } else {
      want(LIBRARY.contains(called), "calls " + called + " (4)");
    }
  }

  private void want(boolean isSo, String told) {
    if (!isSo) {
      broken.add(method + ": " + told);
    }
  }

  private static int shortAt(byte[] code, int at) {
    return (code[at] & 255) << 8 | code[at + 1] & 255;
  }

  private static int intAt(byte[] code, int at) {
    return shortAt(code, at) << 16 | shortAt(code, at + 2);
  }

  private static boolean isArrayAccess(int opcode) {
    return opcode >= 0x2e && opcode <= 0x35 || opcode >= 0x4f && opcode <= 0x56;
  }

  private static boolean isDivision(int opcode) {
    return opcode >= 0x6c && opcode <= 0x73;
  }

  private static boolean isConstantNotNought(byte[] code, int at) {
    int opcode = at < 0 ? 0 : code[at] & 255;
    return opcode >= FIRST_POSITIVE && opcode <= LAST_CONSTANT || opcode == BIPUSH && code[at + 1] != 0
        || opcode == SIPUSH && shortAt(code, at + 1) != 0;
  }

  private boolean isGet(byte[] code, int at) {
    return at >= 0 && (code[at] & 255) == FIRST_INVOKE && called(shortAt(code, at + 1)).startsWith("java/util/ArrayList.get(");
  }

  private static int lengthAt(byte[] code, int at) {
    int opcode = code[at] & 255;
    int operands = (at | 3) + 1;
    switch (opcode) {
      case 0xaa:
        return operands + 12 + 4 * (intAt(code, operands + 8) - intAt(code, operands + 4) + 1) - at;
      case 0xab:
        return operands + 8 + 8 * intAt(code, operands + 4) - at;
      case 0xc4:
        return (code[at + 1] & 255) == 0x84 ? 6 : 4;
      case 0xb9, 0xba, 0xc8, 0xc9:
        return 5;
      case 0xc5:
        return 4;
      case 0x11, 0x13, 0x14, 0x84, 0xbb, 0xbd, 0xc0, 0xc1, 0xc6, 0xc7:
        return 3;
      case 0x10, 0x12, 0xa9, 0xbc:
        return 2;
      default:
        return opcode >= 0x99 && opcode <= 0xa8 || opcode >= 0xb2 && opcode <= 0xb8 ? 3
            : opcode >= 0x15 && opcode <= 0x19 || opcode >= 0x36 && opcode <= 0x3a ? 2 : 1;
    }
  }
}
