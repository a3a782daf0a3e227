import java.lang.reflect.Field;
import java.lang.reflect.Method;
import java.util.ArrayList;

/** isSound() is always true from outside; here the state inside is spoilt, and it must be told each time. */
final class AuditTest {
  private static int wrong = 0;

  private static void due(String told, Object want, Object got) {
    if (!want.equals(got)) {
      wrong++;
      System.out.println("audit: " + told + ": " + got + ", due is " + want);
    }
  }

  private static Field field(Object of, String name) throws ReflectiveOperationException {
    Field field = of.getClass().getDeclaredField(name);
    field.setAccessible(true);
    return field;
  }

  private static Object in(Object of, String... names) throws ReflectiveOperationException {
    Object at = of;
    for (String name : names) {
      at = field(at, name).get(at);
    }
    return at;
  }

  private static Object call(Object of, String name, Object... with) throws ReflectiveOperationException {
    for (Method method : of.getClass().getDeclaredMethods()) {
      if (method.getName().equals(name) && method.getParameterCount() == with.length) {
        method.setAccessible(true);
        return method.invoke(of, with);
      }
    }
    throw new NoSuchMethodException(name);
  }

  private static Object item(Object list, int place) {
    return ((ArrayList<?>) list).get(place);
  }

  private static int[] cells(Object row) throws ReflectiveOperationException {
    return (int[]) in(row, "cells");
  }

  private static Longtapevault vault(int format) {
    Longtapevault vault = new Longtapevault();
    for (int k = 0; k < 12; k++) {
      vault.put(k * 7 % 12, 0, k, 10);
    }
    vault.store(0, format, 40, 0);
    return vault;
  }

  public static void main(String[] args) throws ReflectiveOperationException {
    for (int format = 0; format < 3; format++) {
      spoilBytes(format);
      spoilRecords(format);
      spoilCheck(format);
      spoilReading(format);
    }
    spoilSafe();
    spoilRuns();
    dealings();
    fewestPasses();
    System.out.println("audit: " + wrong + " wrong");
    if (wrong != 0) {
      System.exit(1);
    }
  }

  private static void spoilBytes(int format) throws ReflectiveOperationException {
    Longtapevault vault = vault(format);
    Object file = item(in(vault, "files"), 0);
    for (int data = 0; data < vault.ofFile(0, 4); data++) {
      int[] bytes = cells(in(item(in(file, "data"), data), "bytes"));
      for (int i = 0; i < bytes.length; i++) {
        bytes[i] ^= 1;
        due("byte " + i + " of data block " + data, false, vault.isSound());
        bytes[i] ^= 1;
      }
    }
    due("all as it was", true, vault.isSound());
  }

  private static void spoilRecords(int format) throws ReflectiveOperationException {
    Longtapevault vault = vault(format);
    Object records = in(item(in(vault, "files"), 0), "records");
    for (String part : new String[] {"keys", "kinds", "seeds", "lengths"}) {
      int[] parts = cells(in(records, part));
      for (int i = 0; i < parts.length; i++) {
        parts[i]++;
        due(part + " of record " + i, false, vault.isSound());
        parts[i]--;
      }
    }
    due("all as it was", true, vault.isSound());
  }

  private static void spoilCheck(int format) throws ReflectiveOperationException {
    Longtapevault vault = vault(format);
    Object block = item(in(item(in(vault, "reels"), 0), "blocks"), 2);
    Field check = field(block, "check");
    check.set(block, vault.ofBlock(0, 2, 2) ^ 1);
    due("CHECK without a lost track", true, vault.isSound());
    vault.lose(0, 2, 4);
    due("CHECK with a lost track", false, vault.isSound());
    vault.lose(0, 2, 5);
    due("CHECK with two lost tracks", true, vault.isSound());
  }

  /** What is read must be as it was stored, even if what is packed is not asked. */
  private static void spoilReading(int format) throws ReflectiveOperationException {
    Longtapevault vault = vault(format);
    Object auditor = in(vault, "auditor");
    Object file = item(in(vault, "files"), 0);
    due("read again", true, call(auditor, "isReadAgain", file));
    for (int data = 0; data < vault.ofFile(0, 4); data++) {
      int[] bytes = cells(in(item(in(file, "data"), data), "bytes"));
      for (int i = 0; i < bytes.length; i++) {
        bytes[i] ^= 1;
        due("byte " + i + " read of data block " + data, false, call(auditor, "isReadAgain", file));
        bytes[i] ^= 1;
      }
    }
    vault.snap(0, 3);
    int[] bytes = cells(in(item(in(file, "data"), 3), "bytes"));
    bytes[0] ^= 4;
    due("not all are there", true, call(auditor, "isReadAgain", file));
  }

  private static void spoilSafe() throws ReflectiveOperationException {
    Longtapevault vault = vault(0);
    Object auditor = in(vault, "auditor");
    Object file = item(in(vault, "files"), 0);
    for (int blocks = vault.ofReel(0, 0); blocks > 1; blocks--) {
      due("safe with " + blocks, true, call(auditor, "isSafeAsLabelsTell", file));
      vault.snap(0, blocks - 1);
    }
    due("safe without", true, call(auditor, "isSafeAsLabelsTell", file));
  }

  /** RUNS as they are told for the keys; then as an order and ends that are not as they must be. */
  private static void spoilRuns() throws ReflectiveOperationException {
    runs("as they are", true, 1, new int[] {5, 6, 1, 2, 2}, new int[] {0, 1, 2, 3, 4}, 2, 5);
    runs("one RUN too many, with memory 1", false, 1, new int[] {5, 6, 1, 2, 2}, new int[] {0, 1, 2, 3, 4}, 1, 2, 5);
    runs("one RUN too many, with memory 2", true, 2, new int[] {5, 6, 1, 2, 2}, new int[] {0, 1, 2, 3, 4}, 1, 2, 5);
    runs("a RUN that begins with a like KEY, with memory 1", false, 1, new int[] {5, 6, 1, 2, 2}, new int[] {0, 1, 2, 3, 4}, 2, 4, 5);
    runs("a RUN that falls", false, 1, new int[] {5, 6, 1, 2, 2}, new int[] {0, 1, 2, 3, 4}, 5);
    runs("a RUN that falls at its beginning", false, 8, new int[] {6, 5}, new int[] {0, 1}, 2);
    runs("a RUN that falls at its end", false, 8, new int[] {4, 5, 3}, new int[] {0, 1, 2}, 3);
    runs("one RECORD twice", false, 8, new int[] {4, 4}, new int[] {0, 0}, 2);
    runs("one RECORD too few", false, 8, new int[] {4, 4}, new int[] {0}, 1);
    runs("none", true, 1, new int[0], new int[0]);
  }

  private static void runs(String told, boolean want, int memory, int[] keys, int[] order, int... ends) throws ReflectiveOperationException {
    Longtapevault vault = new Longtapevault();
    for (int key : keys) {
      vault.put(key, 0, 0, 0);
    }
    Object auditor = in(vault, "auditor");
    call(in(auditor, "sorter", "order"), "empty");
    call(in(auditor, "sorter", "ends"), "empty");
    for (int place : order) {
      call(in(auditor, "sorter", "order"), "add", place);
    }
    for (int end : ends) {
      call(in(auditor, "sorter", "ends"), "add", end);
    }
    due("RUNS: " + told, want, call(auditor, "areRunsSound", in(vault, "desk"), memory));
  }

  /** Told once more, from behind: as promise 33 says, no way to deal 0 to 8 RUNS over one REEL less comes to one RUN in fewer PASSES. */
  private static void fewestPasses() {
    for (int reels = 3; reels <= 6; reels++) {
      for (int runs = 0; runs <= 8; runs++) {
        int fewest = fewest(new int[reels], 0, runs);
        due("no fewer PASSES of " + runs + " RUNS over " + reels, true, fewest >= new Longtapevault().passes(reels, runs));
      }
    }
  }

  private static int fewest(int[] dealt, int reel, int left) {
    if (reel == dealt.length - 1) {
      return left == 0 ? passesOf(dealt.clone()) : 1000;
    }
    int fewest = 1000;
    for (int n = 0; n <= left; n++) {
      dealt[reel] = n;
      fewest = Math.min(fewest, fewest(dealt, reel + 1, left - n));
    }
    dealt[reel] = 0;
    return fewest;
  }

  private static int passesOf(int[] on) {
    for (int passes = 0; passes < 100; passes++) {
      int[] some = java.util.Arrays.stream(on).filter(n -> n > 0).toArray();
      if (java.util.Arrays.stream(some).sum() <= 1) {
        return passes;
      }
      int least = java.util.Arrays.stream(some).min().getAsInt();
      int blank = 0;
      while (on[blank] > 0) {
        blank++;
      }
      for (int r = 0; r < on.length; r++) {
        on[r] -= on[r] > 0 ? least : 0;
      }
      on[blank] = least;
    }
    return 1000;
  }

  private static void dealings() throws ReflectiveOperationException {
    Object auditor = in(new Longtapevault(), "auditor");
    int[] ways = {9, 45, 165, 495};
    for (int reels = 3; reels <= 6; reels++) {
      Object dealt = in(auditor, "dealt");
      call(dealt, "fill", reels - 1, 0);
      call(dealt, "set", 0, 8);
      int found = 1;
      while (found < 1000 && (boolean) call(auditor, "dealNextWay")) {
        due("8 are dealt", 8, call(dealt, "sum"));
        found++;
      }
      due("ways to deal 8 over " + reels + " reels", ways[reels - 3], found);
    }
    comes(auditor, false, 3, 5, 3);
    comes(auditor, true, 4, 5, 3);
    comes(auditor, true, 4, 3, 5);
    comes(auditor, false, 9, 4, 4);
    comes(auditor, false, 0, 2, 0);
    comes(auditor, true, 0, 0, 1);
    comes(auditor, false, 1, 2, 2, 1);
    comes(auditor, true, 2, 2, 2, 1);
    comes(auditor, true, 1, 1, 0, 1, 1, 0);
    comes(auditor, true, 2, 2, 2, 2, 2, 1);
    due("8 RUNS", true, call(auditor, "isBestFor", 8));
  }

  private static void comes(Object auditor, boolean want, int passes, int... runs) throws ReflectiveOperationException {
    Object dealt = in(auditor, "dealt");
    call(dealt, "empty");
    for (int n : runs) {
      call(dealt, "add", n);
    }
    due(java.util.Arrays.toString(runs) + " in " + passes + " passes", want, call(auditor, "comesToOne", passes));
  }
}
