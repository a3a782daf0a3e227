import java.lang.management.ManagementFactory;

/** What the dearest runs of 512 calls make, in bytes: far below what one room holds. */
final class RoomTest {
  // The room has 7.3 million elements; most are ints of 4 bytes, texts have a byte a sign.
  private static final long MOST_BYTES = 4_000_000;
  private static final int CALLS = 512;

  private interface Call {
    void of(Longtapevault vault, int call);
  }

  private static int wrong = 0;

  public static void main(String[] args) {
    run("new", (v, i) -> new Longtapevault().knock(), 20_000_000);
    run("digest", (v, i) -> v.digest(), MOST_BYTES);
    run("isSound", (v, i) -> v.isSound(), MOST_BYTES);
    run("map", (v, i) -> v.map(i % 6), MOST_BYTES);
    run("track", (v, i) -> v.track(0, 2, i % 9), MOST_BYTES);
    run("runs", (v, i) -> v.runs(i % 8 + 1), MOST_BYTES);
    run("refusals", (v, i) -> v.refusals(), MOST_BYTES);
    run("split", (v, i) -> v.split(6, 60), MOST_BYTES);
    run("sort", (v, i) -> v.sort(3, 1), MOST_BYTES);
    run("update", (v, i) -> v.update(0), MOST_BYTES);
    run("take", (v, i) -> v.take(0), MOST_BYTES);
    run("store without room", (v, i) -> v.store(0, 2, 8, 0), MOST_BYTES);
    run("snap and store", RoomTest::snapAndStore, MOST_BYTES);
    run("next and back", (v, i) -> {
      v.open(0, i % 2 == 0);
      v.next();
      v.back();
    }, MOST_BYTES);
    System.out.println("room: " + wrong + " kinds of calls make too much");
    if (wrong != 0) {
      System.exit(1);
    }
  }

  private static Longtapevault full() {
    Longtapevault vault = new Longtapevault();
    for (int k = 0; k < 40; k++) {
      vault.put(999 - k, 0, k, 20);
    }
    vault.store(0, 2, 8, 0);
    for (int f = 0; f < 18; f++) {
      vault.store(f % 10, 2, 64, 5);
      vault.store(f % 10, 1, 25, 4);
    }
    vault.update(0);
    return vault;
  }

  private static void snapAndStore(Longtapevault vault, int call) {
    for (int r = 0; r < 6 && vault.count(0) < 20; r++) {
      if (vault.ofReel(r, 0) > 1) {
        vault.snap(r, 1);
      }
    }
    if (vault.count(0) < 20) {
      vault.store(0, 2, 8, 0);
    }
  }

  private static void run(String name, Call call, long most) {
    com.sun.management.ThreadMXBean meter = (com.sun.management.ThreadMXBean) ManagementFactory.getThreadMXBean();
    long thread = Thread.currentThread().getId();
    // Once unmeasured: what the machine makes for its own ends does not count.
    for (int i = 0; i < 20; i++) {
      call.of(full(), i);
    }
    Longtapevault vault = full();
    long before = meter.getThreadAllocatedBytes(thread);
    for (int i = 0; i < CALLS; i++) {
      call.of(vault, i);
    }
    long made = meter.getThreadAllocatedBytes(thread) - before;
    if (made > most) {
      wrong++;
      System.out.println(name + ": " + CALLS + " calls make " + made + " bytes, more than " + most);
    } else if (System.getProperty("tell") != null) {
      System.out.println(name + ": " + made);
    }
  }
}
