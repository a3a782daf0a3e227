import java.util.Random;
import java.util.TreeMap;

/** Long runs of calls by chance (from written seeds), each answer set against PlainVault's. */
final class RandomRunsTest {
  private static final int RUNS = 600;
  private static final int CALLS = 512;

  private interface Call {
    Object of();
  }

  private final Random random;
  private final Longtapevault vault = new Longtapevault();
  private final PlainVault plain = new PlainVault();
  private final StringBuilder told = new StringBuilder();
  // Each run has its own habits, so that some fill the vault, some break it, some mostly read.
  private final int habit;
  private final int length;
  private final int keys;
  private int wrong = 0;
  // How often each call was answered how; told if an argument is given.
  private static final TreeMap<String, Integer> SEEN = new TreeMap<>();

  private RandomRunsTest(long seed) {
    random = new Random(seed);
    habit = random.nextInt(4);
    length = random.nextInt(4) == 0 ? 20 : random.nextInt(21);
    keys = new int[] {5, 30, 300, 1000}[random.nextInt(4)];
  }

  public static void main(String[] args) {
    int wrong = 0;
    for (int run = 0; run < RUNS && wrong == 0; run++) {
      wrong += new RandomRunsTest(run).go(run);
    }
    if (args.length > 0) {
      SEEN.forEach((k, v) -> System.out.println(k + " " + v));
    }
    System.out.println("random runs: " + RUNS + " of " + CALLS + " calls, " + wrong + " wrong");
    if (wrong > 0) {
      System.exit(1);
    }
  }

  private int go(int run) {
    for (int call = 0; call < CALLS && wrong == 0; call++) {
      if (habit != 3 && call < 30) {
        record();
      } else {
        one(random.nextInt(100));
      }
      if (wrong > 0) {
        System.out.println("run " + run + ", call " + call + ":\n" + told);
      }
    }
    both("digest()", vault::digest, plain::digest);
    return wrong;
  }

  private static Object answer(Call call) {
    try {
      return call.of();
    } catch (RuntimeException e) {
      StackTraceElement[] trace = e.getStackTrace();
      boolean isOwn = trace.length > 0 && trace[0].getClassName().endsWith("ault");
      return (isOwn ? "throws." : "the machine throws.") + e.getClass().getName();
    }
  }

  private void both(String name, Call real, Call due) {
    Object want = answer(due);
    Object got = answer(real);
    told.append(name).append(" -> ").append(want).append('\n');
    String kind = name.substring(0, name.indexOf('(')) + " "
        + (want instanceof String s && s.startsWith("throws.") ? s : want.equals(-9) ? "-9" : want.equals(-1) ? "-1" : "fine");
    SEEN.merge(kind, 1, Integer::sum);
    if (!want.equals(got)) {
      wrong++;
      System.out.println(name + " answered " + got + ", due is " + want);
    }
  }

  /** Mostly within the bounds, and now and then just outside or far off. */
  private int near(int least, int most) {
    int dice = random.nextInt(120);
    if (dice == 0) {
      return least - 1;
    }
    if (dice == 1) {
      return most + 1;
    }
    if (dice == 2) {
      return random.nextBoolean() ? Integer.MIN_VALUE : Integer.MAX_VALUE;
    }
    return most < least ? least : least + random.nextInt(most - least + 1);
  }

  private int file() {
    int files = plain.count(0);
    return random.nextInt(3) > 0 ? near(Math.max(0, files - 2), files - 1) : near(0, files - 1);
  }

  private int reel() {
    return habit == 1 ? near(0, 1) : near(0, 5);
  }

  private int block(int reel) {
    int blocks = reel >= 0 && reel < 6 ? plain.ofReel(reel, 0) : 1;
    return near(0, blocks - 1);
  }

  private void record() {
    int key = random.nextInt(40) == 0 ? near(0, 999) : random.nextInt(keys);
    int kind = near(0, random.nextInt(3) == 0 ? 0 : 2);
    int seed = near(0, 255);
    int longer = habit == 2 ? near(0, 20) : random.nextInt(60) == 0 ? near(0, 20) : length;
    both("put(" + key + ", " + kind + ", " + seed + ", " + longer + ")", () -> vault.put(key, kind, seed, longer), () -> plain.put(key, kind, seed, longer));
  }

  private void one(int dice) {
    if (dice < 12) {
      record();
    } else if (dice < 24) {
      write(dice);
    } else if (dice < 32) {
      hurt(dice);
    } else if (dice < 70) {
      play();
    } else if (dice < 78) {
      desk(dice);
    } else {
      ask(random.nextInt(19));
    }
  }

  private void write(int dice) {
    int size = random.nextInt(3) == 0 ? near(8, 9) : near(8, 64);
    int reel = reel();
    if (dice < 16) {
      int f = file();
      both("copy(" + f + ", " + size + ", " + reel + ")", () -> vault.copy(f, size, reel), () -> plain.copy(f, size, reel));
    } else {
      int name = near(0, 9);
      int format = near(0, 2);
      both("store(" + name + ", " + format + ", " + size + ", " + reel + ")", () -> vault.store(name, format, size, reel), () -> plain.store(name, format, size, reel));
    }
  }

  private void hurt(int dice) {
    int r = reel();
    int b = block(r);
    if (dice < 27) {
      int track = near(0, 8);
      both("lose(" + r + ", " + b + ", " + track + ")", () -> vault.lose(r, b, track), () -> plain.lose(r, b, track));
    } else if (dice < 31) {
      int dust = random.nextInt(4) == 0 ? near(0, 9) : near(0, 2);
      both("dust(" + r + ", " + b + ", " + dust + ")", () -> vault.dust(r, b, dust), () -> plain.dust(r, b, dust));
    } else if (habit != 0 || random.nextInt(4) == 0) {
      both("snap(" + r + ", " + b + ")", () -> vault.snap(r, b), () -> plain.snap(r, b));
    }
  }

  private void play() {
    int dice = random.nextInt(20);
    if (dice < 2) {
      int f = file();
      boolean isAtEnd = random.nextBoolean();
      both("open(" + f + ", " + isAtEnd + ")", () -> vault.open(f, isAtEnd), () -> plain.open(f, isAtEnd));
    } else if (dice < 11) {
      both("next()", vault::next, plain::next);
    } else if (dice < 18) {
      both("back()", vault::back, plain::back);
    } else {
      both("stop()", vault::stop, plain::stop);
    }
    int what = near(0, 6);
    both("drive(" + what + ")", () -> vault.drive(what), () -> plain.drive(what));
  }

  private void desk(int dice) {
    int f = file();
    int t = near(3, 6);
    int m = near(1, 8);
    if (dice < 72) {
      both("take(" + f + ")", () -> vault.take(f), () -> plain.take(f));
    } else if (dice < 74) {
      both("update(" + f + ")", () -> vault.update(f), () -> plain.update(f));
      both("refusals()", vault::refusals, plain::refusals);
    } else if (dice < 75) {
      both("sort(" + t + ", " + m + ")", () -> vault.sort(t, m), () -> plain.sort(t, m));
    } else if (dice < 76) {
      both("runs(" + m + ")", () -> vault.runs(m), () -> plain.runs(m));
    } else if (random.nextInt(8) == 0) {
      both("clear()", vault::clear, plain::clear);
    }
  }

  private void ask(int dice) {
    int f = file();
    int r = reel();
    int b = block(r);
    int place = near(0, dice == 10 ? 3 : random.nextInt(5) == 0 ? 70 : 20);
    int what = near(0, new int[] {0, 3, 0, 0, 5, 5, 7, 7, 3, 3, 9, 6, 0, 0, 8, 2, 0, 6, 0}[dice]);
    int t = near(3, 6);
    int n = near(0, 60);
    switch (dice) {
      case 0 -> both("knock()", vault::knock, plain::knock);
      case 1 -> both("deskAt(" + place + ", " + what + ")", () -> vault.deskAt(place, what), () -> plain.deskAt(place, what));
      case 2 -> both("passes(" + t + ", " + n + ")", () -> vault.passes(t, n), () -> plain.passes(t, n));
      case 3 -> both("split(" + t + ", " + n + ")", () -> vault.split(t, n), () -> plain.split(t, n));
      case 4, 5 -> both("recordOf(" + f + ", " + place + ", " + what + ")", () -> vault.recordOf(f, place, what), () -> plain.recordOf(f, place, what));
      case 6, 7 -> both("ofFile(" + f + ", " + what + ")", () -> vault.ofFile(f, what), () -> plain.ofFile(f, what));
      case 8, 9 -> both("dataOf(" + f + ", " + place + ", " + what + ")", () -> vault.dataOf(f, place, what), () -> plain.dataOf(f, place, what));
      case 10 -> both("find(" + what + ", " + place + ")", () -> vault.find(what, place), () -> plain.find(what, place));
      case 11 -> both("ofBlock(" + r + ", " + b + ", " + what + ")", () -> vault.ofBlock(r, b, what), () -> plain.ofBlock(r, b, what));
      case 12, 13 -> both("byteAt(" + r + ", " + b + ", " + place + ")", () -> vault.byteAt(r, b, place), () -> plain.byteAt(r, b, place));
      case 14 -> both("track(" + r + ", " + b + ", " + what + ")", () -> vault.track(r, b, what), () -> plain.track(r, b, what));
      case 15 -> both("ofReel(" + r + ", " + what + ")", () -> vault.ofReel(r, what), () -> plain.ofReel(r, what));
      case 16 -> both("map(" + r + ")", () -> vault.map(r), () -> plain.map(r));
      case 17 -> both("count(" + what + ")", () -> vault.count(what), () -> plain.count(what));
      default -> both("digest()", vault::digest, plain::digest);
    }
  }
}
