/** Promise by promise: ordinary calls, the edges that the document names, and wrong arguments; the answers are told by hand. */
final class PromiseTests {
  private static final String INDEX = "throws.IndexOutOfBoundsException";
  private static final String ARGUMENT = "throws.IllegalArgumentException";
  private static final String STATE = "throws.IllegalStateException";

  private interface Call {
    Object of();
  }

  private static int wrong = 0;
  private static int asked = 0;
  private static int promise = 0;

  private static void due(Object want, Call call) {
    Object got;
    try {
      got = call.of();
    } catch (RuntimeException e) {
      got = "throws." + e.getClass().getSimpleName();
    }
    asked++;
    if (!want.equals(got)) {
      wrong++;
      StackTraceElement at = new Throwable().getStackTrace()[1];
      System.out.println("promise " + promise + ", line " + at.getLineNumber() + ": answered " + got + ", due is " + want);
    }
  }

  public static void main(String[] args) {
    promise1();
    promise2();
    promise3();
    promise4();
    promise5();
    promise6();
    promise7();
    promise7Formats();
    promise7Parts();
    promise8();
    promise9();
    promise10();
    promise11();
    promise12();
    promise13();
    promise13Ticks();
    promise13Spanned();
    promise14();
    promise15();
    promise16();
    promise17();
    promise18();
    promise19();
    promise20();
    promise21();
    promise22();
    promise23();
    promise24();
    promise25();
    promise26();
    promise27();
    promise28();
    promise29();
    promise30();
    promise31();
    promise32();
    promise33();
    promise34();
    System.out.println("promises: " + asked + " answers, " + wrong + " of them not as due");
    if (wrong != 0) {
      System.exit(1);
    }
  }

  /** A vault with keys 1 to n on its desk, each of 4 bytes and more, as many as length tells. */
  private static Longtapevault with(int n, int length) {
    Longtapevault v = new Longtapevault();
    for (int k = 1; k <= n; k++) {
      v.put(k, 0, k, length);
    }
    return v;
  }

  private static void promise1() {
    promise = 1;
    Longtapevault v = new Longtapevault();
    for (int r = 0; r < 6; r++) {
      int reel = r;
      due("V", () -> v.map(reel));
      due(20, () -> v.ofReel(reel, 1));
      due(0, () -> v.ofReel(reel, 2));
      due(200, () -> v.byteAt(reel, 0, 0));
      due(reel, () -> v.byteAt(reel, 0, 1));
      due(0, () -> v.byteAt(reel, 0, 2));
    }
    due(0, () -> v.count(0));
    due(0, () -> v.count(1));
    due(6, () -> v.count(2));
    due(0, () -> v.drive(0));
    due(-1, () -> v.drive(4));
    due(-1, () -> v.drive(6));
  }

  private static void promise2() {
    promise = 2;
    Longtapevault v = new Longtapevault();
    due(1, () -> v.put(0, 0, 0, 0));
    due(2, () -> v.put(999, 2, 255, 20));
    due(999, () -> v.deskAt(1, 0));
    due(ARGUMENT, () -> v.put(-1, 0, 0, 0));
    due(ARGUMENT, () -> v.put(1000, 0, 0, 0));
    due(ARGUMENT, () -> v.put(0, -1, 0, 0));
    due(ARGUMENT, () -> v.put(0, 3, 0, 0));
    due(ARGUMENT, () -> v.put(0, 0, -1, 0));
    due(ARGUMENT, () -> v.put(0, 0, 256, 0));
    due(ARGUMENT, () -> v.put(0, 0, 0, -1));
    due(ARGUMENT, () -> v.put(0, 0, 0, 21));
    due(2, () -> v.count(1));
    for (int i = 2; i < 40; i++) {
      v.put(i, 0, 0, 0);
    }
    due(STATE, () -> v.put(1, 0, 0, 0));
    due(ARGUMENT, () -> v.put(1000, 0, 0, 0));
    due(40, () -> v.count(1));
  }

  private static void promise3() {
    promise = 3;
    Longtapevault v = with(3, 0);
    due(3, v::clear);
    due(0, v::clear);
    due(INDEX, () -> v.deskAt(0, 0));
  }

  private static void promise4() {
    promise = 4;
    Longtapevault v = with(3, 1);
    v.store(0, 0, 8, 0);
    v.put(50, 2, 9, 0);
    due(3, () -> v.take(0));
    due(3, () -> v.count(1));
    due(2, () -> v.deskAt(1, 0));
    v.dust(0, 2, 2);
    due(3, () -> v.take(0));
    due(2, () -> v.ofBlock(0, 2, 5));
    due(0, v::stop);
    v.dust(0, 2, 3);
    due(-9, () -> v.take(0));
    v.dust(0, 2, 0);
    v.lose(0, 3, 8);
    due(3, () -> v.take(0));
    v.lose(0, 3, 2);
    v.clear();
    due(-9, () -> v.take(0));
    due(0, () -> v.count(1));
    due(INDEX, () -> v.take(1));
    due(INDEX, () -> v.take(-1));
    Longtapevault w = with(2, 1);
    w.store(0, 0, 8, 0);
    // Only the trailer is gone: all bytes are there, but no label tells that they are all.
    w.snap(0, 4);
    due(-9, () -> w.take(0));
  }

  private static void promise5() {
    promise = 5;
    Longtapevault v = new Longtapevault();
    due(0, () -> v.sort(3, 1));
    int[] keys = {5, 3, 5, 1, 3, 9};
    for (int i = 0; i < keys.length; i++) {
      v.put(keys[i], i % 3, i, i);
    }
    // 5 | 3 5 | 1 3 9: three runs.
    due(2, () -> v.sort(3, 1));
    int[] sorted = {1, 3, 3, 5, 5, 9};
    int[] seeds = {3, 1, 4, 0, 2, 5};
    for (int i = 0; i < 6; i++) {
      int place = i;
      due(sorted[i], () -> v.deskAt(place, 0));
      due(seeds[i] % 3, () -> v.deskAt(place, 1));
      due(seeds[i], () -> v.deskAt(place, 2));
      due(seeds[i], () -> v.deskAt(place, 3));
    }
    due(0, () -> v.sort(6, 1));
    due(ARGUMENT, () -> v.sort(2, 1));
    due(ARGUMENT, () -> v.sort(7, 1));
    due(ARGUMENT, () -> v.sort(3, 0));
    due(ARGUMENT, () -> v.sort(3, 9));
    due(0, v::stop);
  }

  private static void promise6() {
    promise = 6;
    Longtapevault v = new Longtapevault();
    v.put(7, 2, 70, 0);
    v.put(3, 0, 30, 0);
    v.put(7, 1, 71, 0);
    v.put(5, 0, 50, 0);
    v.store(0, 0, 8, 0);
    v.clear();
    due(0, () -> v.update(0));
    // Of key 7 only its last record counts, whatever its kind.
    due(3, () -> v.count(1));
    due(71, () -> v.deskAt(2, 2));
    due(0, () -> v.deskAt(2, 1));
    v.clear();
    v.put(9, 1, 90, 1);
    v.put(5, 2, 0, 0);
    v.put(3, 0, 31, 0);
    v.put(5, 1, 51, 0);
    v.put(5, 0, 52, 3);
    v.put(7, 1, 72, 4);
    v.put(4, 0, 40, 0);
    v.put(4, 0, 41, 0);
    due(4, () -> v.update(0));
    due("3 4 5 9", v::refusals);
    due(4, () -> v.count(1));
    int[] keys = {3, 4, 5, 7};
    int[] seeds = {30, 40, 52, 72};
    for (int i = 0; i < 4; i++) {
      int place = i;
      due(keys[i], () -> v.deskAt(place, 0));
      due(0, () -> v.deskAt(place, 1));
      due(seeds[i], () -> v.deskAt(place, 2));
    }
    due(3, () -> v.deskAt(2, 3));
    due(4, () -> v.deskAt(3, 3));
    due(INDEX, () -> v.update(1));
    v.dust(0, 2, 3);
    due(-9, () -> v.update(0));
    due("3 4 5 9", v::refusals);
    promise6Full();
  }

  private static void promise6Full() {
    Longtapevault v = with(40, 0);
    v.store(0, 1, 64, 0);
    v.clear();
    v.put(0, 0, 1, 0);
    due(-9, () -> v.update(0));
    due(1, () -> v.count(1));
    due("", v::refusals);
    v.put(40, 2, 1, 0);
    due(0, () -> v.update(0));
    due(40, () -> v.count(1));
    due(0, () -> v.deskAt(0, 0));
    due(39, () -> v.deskAt(39, 0));
    due(0, v::stop);
  }

  private static void promise7() {
    promise = 7;
    Longtapevault v = new Longtapevault();
    due(-9, () -> v.store(0, 0, 8, 0));
    v.put(1, 0, 0, 0);
    due(INDEX, () -> v.store(0, 0, 8, 6));
    due(INDEX, () -> v.store(10, 3, 7, -1));
    due(ARGUMENT, () -> v.store(-1, 0, 8, 0));
    due(ARGUMENT, () -> v.store(10, 0, 8, 0));
    due(ARGUMENT, () -> v.store(0, -1, 8, 0));
    due(ARGUMENT, () -> v.store(0, 3, 8, 0));
    due(ARGUMENT, () -> v.store(0, 0, 7, 0));
    due(ARGUMENT, () -> v.store(0, 0, 65, 0));
    due("V", () -> v.map(0));
    for (int f = 0; f < 20; f++) {
      int file = f;
      due(file, () -> v.store(9, 0, 64, file / 4));
    }
    due(STATE, () -> v.store(0, 0, 8, 0));
    due(ARGUMENT, () -> v.store(0, 0, 7, 0));
    v.clear();
    due(STATE, () -> v.store(0, 0, 8, 0));
    due("V H D4 T H D4 T H D4 T H D4 T", () -> v.map(4));
    // The header of file 19, behind its data block, and its trailer.
    int[] header = {201, 19, 0, 0, 0, 0, 0, 0};
    int[] trailer = {203, 19, 0, 1, 1, 0, 0, 0};
    for (int i = 0; i < 8; i++) {
      int place = i;
      due(header[i], () -> v.byteAt(4, 10, place));
      due(trailer[i], () -> v.byteAt(4, 12, place));
    }
  }

  private static void promise7Formats() {
    Longtapevault v = with(4, 1);
    v.put(5, 0, 0, 2);
    due(-9, () -> v.store(0, 0, 64, 0));
    due(0, () -> v.store(0, 1, 12, 0));
    due("V H D12 D12 D7 T", () -> v.map(0));
    Longtapevault w = with(1, 20);
    due(-9, () -> w.store(0, 0, 23, 0));
    due(0, () -> w.store(0, 0, 24, 0));
    due(-9, () -> w.store(0, 1, 24, 0));
    due(1, () -> w.store(0, 1, 25, 0));
    due(2, () -> w.store(0, 2, 8, 0));
    due("V H D24 T H D25 T H D8 D8 D8 D8 T", () -> w.map(0));
    // Segments of the record with key 1, seed 1: its beginning, middles, and its end.
    int[] first = {1, 6, 0, 1, 0, 1, 2, 39};
    int[] last = {3, 6, 8, 45, 82, 119, 156, 193};
    for (int i = 0; i < 8; i++) {
      int place = i;
      due(first[i], () -> w.byteAt(0, 8, place));
      due(last[i], () -> w.byteAt(0, 11, place));
    }
    due(2, () -> w.byteAt(0, 9, 0));
    // With three bytes left a segment of one byte comes, with two left none.
    Longtapevault x = with(2, 3);
    due(0, () -> x.store(0, 2, 12, 0));
    due("V H D12 D8 T", () -> x.map(0));
    due(1, () -> x.byteAt(0, 2, 9));
    due(1, () -> x.byteAt(0, 2, 10));
    due(3, () -> x.byteAt(0, 3, 0));
    due(1, () -> x.store(0, 2, 11, 1));
    due("V H D9 D9 T", () -> x.map(1));
    due(0, () -> x.byteAt(1, 3, 0));
  }

  private static void promise7Parts() {
    // Records of 24 bytes, one in a data block of 36 units; the two labels ahead have 40, the check labels 20 each.
    Longtapevault v = with(22, 20);
    due(-9, () -> v.store(0, 0, 8, 5));
    due(0, () -> v.store(7, 0, 24, 1));
    // The 22nd begins at 40 + 21 * 36 + 5 * 20 = 896, and 896 + 36 + 40 is not above 1000.
    due("V H D24 D24 D24 D24 C D24 D24 D24 D24 C D24 D24 D24 D24 C D24 D24 D24 D24 C D24 D24 D24 D24 C D24 D24 T", () -> v.map(1));
    due(952, () -> v.ofReel(1, 1));
    due(-9, () -> v.store(7, 0, 24, 1));
    v.put(23, 0, 23, 20);
    v.put(24, 0, 24, 20);
    // The 23rd would begin at 932, and 932 + 36 + 40 is above 1000, so it goes to reel 0.
    due(1, () -> v.store(7, 0, 24, 2));
    due(2, () -> v.ofFile(1, 5));
    due("V H D24 D24 T", () -> v.map(0));
    due(1, () -> v.byteAt(0, 1, 2));
    due(22, () -> v.byteAt(0, 1, 3));
    due(22, () -> v.byteAt(0, 1, 4));
    due(24, () -> v.byteAt(0, 4, 4));
    due(0, () -> v.byteAt(2, 29, 2));
    due(22, () -> v.byteAt(2, 29, 4));
    // Now reels 3, 4 and 5 are blank; a file for each, then there is none for a second part.
    due(2, () -> v.store(7, 0, 24, 3));
    due("V H D24 D24 T", () -> v.map(4));
    due(-9, () -> v.store(7, 0, 24, 5));
    due("V", () -> v.map(5));
    due(2, () -> v.ofFile(0, 7));
    promise7Drive();
  }

  private static void promise7Drive() {
    Longtapevault v = with(2, 1);
    v.store(0, 0, 8, 0);
    v.open(0, false);
    v.next();
    due(1, () -> v.drive(2));
    due(2, () -> v.drive(6));
    due(1, () -> v.copy(0, 64, 0));
    due(0, () -> v.drive(2));
    due(-1, () -> v.drive(6));
    due(0, () -> v.drive(4));
    due(1, () -> v.drive(5));
    due(3, () -> v.drive(1));
    due(-9, () -> fillUp(v));
    v.next();
    due(1, () -> v.drive(2));
    due(3, () -> v.drive(6));
    due(-9, () -> v.store(0, 0, 64, 0));
    due(1, () -> v.drive(2));
    due(3, () -> v.drive(6));
  }

  /** Stores on reel 0 until there is no room. */
  private static int fillUp(Longtapevault v) {
    for (int i = 0; i < 20; i++) {
      if (v.store(0, 0, 64, 0) == -9) {
        return -9;
      }
    }
    return 0;
  }

  private static void promise8() {
    promise = 8;
    Longtapevault v = new Longtapevault();
    v.put(9, 2, 1, 2);
    v.put(4, 1, 2, 2);
    v.store(6, 2, 8, 0);
    v.clear();
    v.put(1, 0, 0, 0);
    v.dust(0, 2, 2);
    due(1, () -> v.copy(0, 64, 0));
    due(2, () -> v.ofBlock(0, 2, 5));
    due(1, () -> v.count(1));
    due(6, () -> v.ofFile(1, 0));
    due(2, () -> v.ofFile(1, 1));
    due(64, () -> v.ofFile(1, 2));
    due(9, () -> v.recordOf(1, 0, 0));
    due(2, () -> v.recordOf(1, 0, 1));
    due(1, () -> v.recordOf(1, 1, 1));
    due("V H D8 D8 T H D16 T", () -> v.map(0));
    due(INDEX, () -> v.copy(2, 8, 0));
    due(INDEX, () -> v.copy(-1, 8, 0));
    due(INDEX, () -> v.copy(0, 7, 6));
    due(ARGUMENT, () -> v.copy(0, 7, 0));
    due(ARGUMENT, () -> v.copy(0, 65, 0));
    v.lose(0, 2, 0);
    due(2, () -> v.copy(0, 8, 1));
    v.lose(0, 2, 1);
    due(-9, () -> v.copy(0, 8, 1));
    v.clear();
    v.put(1, 0, 1, 20);
    v.store(1, 1, 64, 3);
    due(-9, () -> v.copy(3, 24, 3));
    due(4, () -> v.copy(3, 25, 3));
    for (int f = 5; f < 20; f++) {
      v.copy(3, 25, f % 3);
    }
    due(20, () -> v.count(0));
    due(STATE, () -> v.copy(0, 8, 1));
    due(ARGUMENT, () -> v.copy(0, 7, 1));
    due(0, v::stop);
  }

  private static void promise9() {
    promise = 9;
    Longtapevault v = with(1, 0);
    v.store(0, 0, 8, 2);
    due(1, () -> v.lose(2, 2, 0));
    due(1, () -> v.lose(2, 2, 0));
    due(2, () -> v.lose(2, 2, 8));
    due(3, () -> v.lose(2, 2, 5));
    due(1, () -> v.lose(0, 0, 3));
    due(INDEX, () -> v.lose(2, 4, 0));
    due(INDEX, () -> v.lose(2, -1, 9));
    due(INDEX, () -> v.lose(6, 0, 0));
    due(INDEX, () -> v.lose(-1, 0, 0));
    due(ARGUMENT, () -> v.lose(2, 2, 9));
    due(ARGUMENT, () -> v.lose(2, 2, -1));
    due(3, () -> v.ofBlock(2, 2, 4));
  }

  private static void promise10() {
    promise = 10;
    Longtapevault v = with(1, 0);
    v.store(0, 0, 8, 2);
    due(0, () -> v.dust(2, 2, 9));
    due(9, () -> v.dust(2, 2, 0));
    due(0, () -> v.dust(2, 2, 1));
    due(0, () -> v.dust(2, 0, 4));
    due(INDEX, () -> v.dust(2, 4, 0));
    due(INDEX, () -> v.dust(6, 0, 10));
    due(ARGUMENT, () -> v.dust(2, 2, 10));
    due(ARGUMENT, () -> v.dust(2, 2, -1));
    due(1, () -> v.ofBlock(2, 2, 5));
  }

  private static void promise11() {
    promise = 11;
    Longtapevault v = with(5, 1);
    v.store(0, 0, 8, 1);
    due("V H D5 D5 D5 D5 C D5 T", () -> v.map(1));
    due(ARGUMENT, () -> v.snap(1, 0));
    due(INDEX, () -> v.snap(1, 9));
    due(INDEX, () -> v.snap(1, -1));
    due(INDEX, () -> v.snap(6, 0));
    due(5, () -> v.ofFile(0, 6));
    v.open(0, true);
    v.back();
    due(7, () -> v.drive(1));
    due(2, () -> v.snap(1, 7));
    due("V H D5 D5 D5 D5 C", () -> v.map(1));
    due(4, () -> v.ofFile(0, 6));
    due(-1, () -> v.drive(4));
    due(0, () -> v.drive(5));
    due(0, () -> v.drive(2));
    due(-1, () -> v.drive(6));
    due(7, () -> v.drive(1));
    due(1, () -> v.snap(1, 6));
    due(6, () -> v.drive(1));
    due(0, () -> v.ofFile(0, 6));
    int time = v.drive(3);
    due(1, () -> v.store(0, 0, 8, 1));
    due("V H D5 D5 D5 D5 H D5 D5 D5 D5 C D5 T", () -> v.map(1));
    due(0, () -> v.dataOf(0, 4, 2));
    due(1, () -> v.dataOf(0, 3, 2));
    due(7, () -> v.dataOf(0, 4, 1));
    due(time, () -> v.drive(3));
    // A break on another reel leaves the gap alone.
    v.open(1, false);
    v.next();
    due(8, () -> v.drive(1));
    due(2, () -> v.store(0, 0, 8, 0) == 2 ? v.snap(0, 7) : 0);
    due(8, () -> v.drive(1));
    due(STATE, v::next);
    due(13, () -> v.snap(1, 1));
    due("V", () -> v.map(1));
    due(1, () -> v.drive(1));
  }

  private static void promise12() {
    promise = 12;
    Longtapevault v = with(3, 1);
    v.store(0, 0, 8, 0);
    v.store(1, 2, 64, 0);
    due(3, () -> v.open(0, false));
    due(0, () -> v.drive(5));
    due(0, () -> v.drive(4));
    due(3, () -> v.open(1, true));
    due(3, () -> v.drive(5));
    due(1, () -> v.drive(4));
    due(0, () -> v.drive(3));
    due(INDEX, () -> v.open(2, false));
    due(INDEX, () -> v.open(-1, true));
    due(1, () -> v.drive(4));
    v.snap(0, 3);
    due(0, () -> v.open(0, true));
    due(0, () -> v.drive(5));
    due(-1, v::next);
    due(-1, v::back);
  }

  private static void promise13() {
    promise = 13;
    Longtapevault v = with(3, 1);
    due(STATE, v::next);
    v.store(0, 0, 8, 0);
    due(STATE, v::next);
    v.open(0, false);
    due(1, v::next);
    due(2, v::next);
    v.dust(0, 4, 3);
    due(-9, v::next);
    due(2, () -> v.drive(5));
    v.dust(0, 4, 0);
    due(3, v::next);
    due(-1, v::next);
    due(3, () -> v.drive(5));
    v.open(0, false);
    v.lose(0, 2, 1);
    due(1, v::next);
    v.open(0, false);
    v.lose(0, 2, 2);
    due(-9, v::next);
    Longtapevault w = with(2, 0);
    w.store(0, 0, 8, 0);
    w.open(0, false);
    due(1, w::next);
    w.lose(0, 2, 1);
    w.lose(0, 2, 2);
    // Both records are in the block that is in the buffer, and yet it cannot be read any more.
    due(2, () -> w.drive(6));
    due(-9, w::next);
    due(-9, w::back);
  }

  private static void promise13Ticks() {
    // Blocks of 5 bytes are 17 units long.
    Longtapevault v = with(5, 1);
    v.store(0, 0, 8, 0);
    v.store(0, 0, 8, 3);
    v.open(0, false);
    // Wound over 40 units (5 + 3 ticks), started (6), read (17).
    v.next();
    due(31, () -> v.drive(3));
    due(57, () -> v.ofReel(0, 2));
    // With dust 2 three tries: 17 + 2 * 34.
    v.dust(0, 3, 2);
    v.next();
    due(116, () -> v.drive(3));
    due(142, () -> v.ofReel(0, 2));
    due(0, () -> v.ofBlock(0, 3, 5));
    v.next();
    v.next();
    due(150, () -> v.drive(3));
    due(6, () -> v.drive(1));
    // Over the check label: 20 units are 3 ticks, and 3 more; it stood, so 6 and 17.
    v.next();
    due(179, () -> v.drive(3));
    // Back at once: 4 and 6 and no winding, but it is in the buffer still.
    due(5, v::back);
    due(179, () -> v.drive(3));
    due(1, () -> v.drive(2));
    // Gap 8 is behind block 7, so to behind block 5 it winds over 37 units: 5 + 3, then 6 + 17.
    due(4, v::back);
    due(210, () -> v.drive(3));
    due(2, () -> v.drive(2));
    due(5, () -> v.drive(1));
    due(3, v::back);
    due(227, () -> v.drive(3));
    due(4, () -> v.drive(1));
    // Forward again: the buffer, then block 5, which is ahead of no gap 4: over 17 units, 3 + 3, 6, 17.
    due(3, v::next);
    due(4, v::next);
    due(256, () -> v.drive(3));
    // Another reel: 50, then as at first; what moved before does not count.
    v.open(1, false);
    due(1, v::next);
    due(256 + 50 + 31, () -> v.drive(3));
    due(3, () -> v.drive(0));
    due(3, () -> v.drive(1));
    due(57, () -> v.ofReel(3, 2));
    promise13Turn();
  }

  private static void promise13Turn() {
    Longtapevault v = with(3, 1);
    v.store(0, 0, 8, 0);
    v.open(0, false);
    v.next();
    v.next();
    due(48, () -> v.drive(3));
    v.store(1, 0, 8, 1);
    due(0, () -> v.drive(2));
    // The buffer is empty now, the gap is behind block 3: 6 + 17.
    due(2, v::back);
    due(71, () -> v.drive(3));
    // Now it moves back, ahead of block 3, which is in the buffer; block 2 follows: 17.
    due(1, v::back);
    due(88, () -> v.drive(3));
    // Ahead of block 2: from the buffer; block 3 needs winding over block 2: 3 + 3, 6 + 17.
    due(1, v::next);
    due(2, v::next);
    due(117, () -> v.drive(3));
    due(3, () -> v.drive(6));
  }

  private static void promise13Spanned() {
    // Two records of 24 bytes in blocks of 8: four blocks each, and a check label between.
    Longtapevault v = with(2, 20);
    v.store(0, 2, 8, 0);
    due("V H D8 D8 D8 D8 C D8 D8 D8 D8 T", () -> v.map(0));
    v.open(0, false);
    v.dust(0, 9, 3);
    due(1, v::next);
    due(8 + 6 + 80, () -> v.drive(3));
    due(5, () -> v.drive(6));
    // One of its blocks cannot be read, so none is.
    due(-9, v::next);
    due(94, () -> v.drive(3));
    v.dust(0, 9, 1);
    due(2, v::next);
    // Over the check label 3 + 3, 6, then 4 * 20 and 40 more for the second try.
    due(94 + 12 + 120, () -> v.drive(3));
    due(0, () -> v.ofBlock(0, 9, 5));
    // Back by falling numbers: block 10 is in the buffer; behind block 9 is one block back: 3 + 3, 6, 3 * 20.
    due(2, v::back);
    due(226 + 12 + 60, () -> v.drive(3));
    due(7, () -> v.drive(6));
    due(7, () -> v.drive(1));
    due(2, () -> v.drive(2));
    v.dust(0, 7, 2);
    // Forward from the buffer (its dust stays), then block 8 on: over one block 3 + 3, 6, 3 * 20.
    due(2, v::next);
    due(298 + 12 + 60, () -> v.drive(3));
    due(2, () -> v.ofBlock(0, 7, 5));
  }

  private static void promise14() {
    promise = 14;
    Longtapevault v = with(3, 1);
    due(STATE, v::back);
    v.store(0, 0, 8, 0);
    v.open(0, false);
    due(-1, v::back);
    v.open(0, true);
    due(3, v::back);
    due(2, () -> v.drive(5));
    due(2, () -> v.drive(2));
    due(4, () -> v.drive(1));
    // Over 91 units to behind block 4: 12 + 3, 6, 17.
    due(38, () -> v.drive(3));
    due(108, () -> v.ofReel(0, 2));
    v.lose(0, 3, 0);
    v.lose(0, 3, 1);
    due(-9, v::back);
    due(2, () -> v.drive(5));
    due(38, () -> v.drive(3));
    v.open(0, false);
    v.next();
    due(1, v::back);
    due(-1, v::back);
  }

  private static void promise15() {
    promise = 15;
    Longtapevault v = with(3, 1);
    due(0, v::stop);
    v.store(0, 0, 8, 0);
    v.open(0, false);
    v.next();
    due(35, v::stop);
    due(0, () -> v.drive(2));
    due(35, v::stop);
    due(3, () -> v.drive(1));
    due(2, () -> v.drive(6));
    v.next();
    due(35 + 6 + 17, () -> v.drive(3));
    v.back();
    v.back();
    due(2, () -> v.drive(2));
    int time = v.drive(3);
    due(time + 4, v::stop);
  }

  private static void promise16() {
    promise = 16;
    Longtapevault v = with(1, 0);
    v.store(0, 0, 8, 0);
    due(1, () -> v.update(0));
    due(0, () -> v.count(6));
    due(1, v::knock);
    due(2, v::knock);
    due(2, () -> v.count(6));
    due("1", v::refusals);
  }

  private static void promise17() {
    promise = 17;
    Longtapevault v = new Longtapevault();
    v.put(300, 2, 17, 9);
    due(300, () -> v.deskAt(0, 0));
    due(2, () -> v.deskAt(0, 1));
    due(17, () -> v.deskAt(0, 2));
    due(9, () -> v.deskAt(0, 3));
    due(INDEX, () -> v.deskAt(1, 4));
    due(INDEX, () -> v.deskAt(-1, 0));
    due(ARGUMENT, () -> v.deskAt(0, 4));
    due(ARGUMENT, () -> v.deskAt(0, -1));
  }

  private static void promise18() {
    promise = 18;
    Longtapevault v = new Longtapevault();
    due("", () -> v.runs(8));
    for (int key : new int[] {4, 4, 2, 7, 1, 3, 9, 0}) {
      v.put(key, 0, 0, 0);
    }
    due("2 2 3 1", () -> v.runs(1));
    // 4 4 7 | 1 2 3 9 | 0
    due("3 4 1", () -> v.runs(2));
    due("8", () -> v.runs(8));
    // Memory 7: 0 comes with 1 gone, so it waits for the next run.
    due("7 1", () -> v.runs(7));
    due(ARGUMENT, () -> v.runs(0));
    due(ARGUMENT, () -> v.runs(9));
    due(4, () -> v.deskAt(0, 0));
  }

  private static void promise19() {
    promise = 19;
    Longtapevault v = new Longtapevault();
    int[][] totals = {{1, 2, 3, 5, 8, 13, 21, 34, 55, 89}, {1, 3, 5, 9, 17, 31, 57, 105}, {1, 4, 7, 13, 25, 49, 94}, {1, 5, 9, 17, 33, 65}};
    for (int t = 3; t <= 6; t++) {
      int reels = t;
      int level = 0;
      due(0, () -> v.passes(reels, 0));
      for (int n = 1; n <= 60; n++) {
        int runs = n;
        level += totals[t - 3][level] < n ? 1 : 0;
        int passes = level;
        due(passes, () -> v.passes(reels, runs));
      }
    }
    due(ARGUMENT, () -> v.passes(2, 1));
    due(ARGUMENT, () -> v.passes(7, 1));
    due(ARGUMENT, () -> v.passes(3, -1));
    due(ARGUMENT, () -> v.passes(3, 61));
  }

  private static void promise20() {
    promise = 20;
    Longtapevault v = new Longtapevault();
    due("1 0", () -> v.split(3, 1));
    due("1 1", () -> v.split(3, 2));
    due("2 1", () -> v.split(3, 3));
    // Level 3 is 3 2; one dummy goes to the first, so 2 2.
    due("2 2", () -> v.split(3, 4));
    due("1 1 1", () -> v.split(4, 3));
    due("2 2 1", () -> v.split(4, 5));
    // Of 2 2 1 the dummy goes to the first.
    due("1 2 1", () -> v.split(4, 4));
    due("4 3 2", () -> v.split(4, 9));
    due("1 0 0 0 0", () -> v.split(6, 1));
    due("1 1 1 1 1", () -> v.split(6, 5));
    due("2 2 2 2 1", () -> v.split(6, 9));
    due(ARGUMENT, () -> v.split(2, 1));
    due(ARGUMENT, () -> v.split(7, 1));
    due(ARGUMENT, () -> v.split(3, 0));
    due(ARGUMENT, () -> v.split(3, 61));
  }

  private static void promise21() {
    promise = 21;
    Longtapevault v = with(2, 0);
    due("", v::refusals);
    v.store(0, 0, 8, 0);
    v.put(2, 0, 0, 0);
    v.put(900, 2, 0, 0);
    due(4, () -> v.update(0));
    due("1 2 2 900", v::refusals);
    due(INDEX, () -> v.update(1));
    due("1 2 2 900", v::refusals);
    v.clear();
    due("1 2 2 900", v::refusals);
    due(0, () -> v.update(0));
    due("", v::refusals);
  }

  private static void promise22() {
    promise = 22;
    Longtapevault v = new Longtapevault();
    v.put(300, 2, 17, 20);
    v.put(301, 1, 18, 0);
    v.store(0, 2, 10, 0);
    // 8 + 8 + 8 bytes of the first fill three blocks; the second has the fourth alone.
    int[] first = {300, 2, 17, 20, 0, 2};
    int[] second = {301, 1, 18, 0, 3, 3};
    v.snap(0, 2);
    v.clear();
    for (int w = 0; w < 6; w++) {
      int what = w;
      due(first[w], () -> v.recordOf(0, 0, what));
      due(second[w], () -> v.recordOf(0, 1, what));
    }
    due(INDEX, () -> v.recordOf(1, 0, 0));
    due(INDEX, () -> v.recordOf(-1, 0, 0));
    due(INDEX, () -> v.recordOf(0, 2, 6));
    due(INDEX, () -> v.recordOf(0, -1, 0));
    due(ARGUMENT, () -> v.recordOf(0, 0, 6));
    due(ARGUMENT, () -> v.recordOf(0, 0, -1));
  }

  private static void promise23() {
    promise = 23;
    Longtapevault v = with(5, 1);
    v.store(3, 1, 9, 0);
    v.store(4, 0, 64, 0);
    v.store(3, 0, 64, 0);
    int[] want = {3, 1, 9, 5, 5, 1, 5, 1};
    for (int w = 0; w < 8; w++) {
      int what = w;
      due(want[w], () -> v.ofFile(0, what));
    }
    due(0, () -> v.ofFile(1, 7));
    due(0, () -> v.ofFile(2, 7));
    v.snap(0, 7);
    due(4, () -> v.ofFile(0, 6));
    due(0, () -> v.ofFile(1, 6));
    due(5, () -> v.ofFile(0, 3));
    due(5, () -> v.ofFile(0, 4));
    due(1, () -> v.ofFile(0, 5));
    due(1, () -> v.ofFile(0, 7));
    due(INDEX, () -> v.ofFile(3, 8));
    due(INDEX, () -> v.ofFile(-1, 0));
    due(ARGUMENT, () -> v.ofFile(0, 8));
    due(ARGUMENT, () -> v.ofFile(0, -1));
  }

  private static void promise24() {
    promise = 24;
    Longtapevault v = with(5, 1);
    v.store(3, 0, 8, 4);
    due(4, () -> v.dataOf(0, 4, 0));
    due(7, () -> v.dataOf(0, 4, 1));
    due(1, () -> v.dataOf(0, 4, 2));
    due(1, () -> v.dataOf(0, 4, 3));
    v.dust(4, 7, 2);
    v.lose(4, 7, 3);
    due(1, () -> v.dataOf(0, 4, 3));
    v.dust(4, 7, 3);
    due(0, () -> v.dataOf(0, 4, 3));
    due(1, () -> v.dataOf(0, 4, 2));
    v.dust(4, 7, 0);
    v.lose(4, 7, 4);
    due(0, () -> v.dataOf(0, 4, 3));
    v.snap(4, 3);
    due(0, () -> v.dataOf(0, 4, 2));
    due(0, () -> v.dataOf(0, 2, 3));
    due(4, () -> v.dataOf(0, 2, 1));
    due(1, () -> v.dataOf(0, 0, 3));
    due(INDEX, () -> v.dataOf(1, 0, 0));
    due(INDEX, () -> v.dataOf(0, 5, 4));
    due(INDEX, () -> v.dataOf(0, -1, 0));
    due(ARGUMENT, () -> v.dataOf(0, 0, 4));
    due(ARGUMENT, () -> v.dataOf(0, 0, -1));
  }

  private static void promise25() {
    promise = 25;
    Longtapevault v = with(1, 0);
    v.store(9, 0, 8, 0);
    v.store(0, 0, 8, 0);
    v.store(9, 0, 8, 0);
    due(2, () -> v.find(9, 0));
    due(0, () -> v.find(9, 1));
    due(-1, () -> v.find(9, 2));
    due(1, () -> v.find(0, 0));
    due(-1, () -> v.find(0, 1));
    due(-1, () -> v.find(5, 0));
    due(-1, () -> v.find(9, Integer.MAX_VALUE));
    due(ARGUMENT, () -> v.find(10, 0));
    due(ARGUMENT, () -> v.find(-1, 0));
    due(ARGUMENT, () -> v.find(9, -1));
  }

  private static void promise26() {
    promise = 26;
    Longtapevault v = new Longtapevault();
    v.put(256, 2, 129, 0);
    v.store(0, 0, 8, 5);
    // 1, 0, 2, 129: 1; 2; 4 ^ 2 = 6; 12 ^ 129 = 141.
    int[] want = {4, 4, 141, 1 ^ 2 ^ 129, 0, 0, 0};
    for (int w = 0; w < 7; w++) {
      int what = w;
      due(want[w], () -> v.ofBlock(5, 2, what));
    }
    // 203, 0, 0, 1, 1: 203; 151; 47; 94 ^ 1 = 95; 190 ^ 1 = 191; 127; 254; 253.
    due(3, () -> v.ofBlock(5, 3, 0));
    due(8, () -> v.ofBlock(5, 3, 1));
    due(253, () -> v.ofBlock(5, 3, 2));
    due(203, () -> v.ofBlock(5, 3, 3));
    due(0, () -> v.ofBlock(5, 0, 0));
    due(-1, () -> v.ofBlock(5, 0, 6));
    due(0, () -> v.ofBlock(5, 1, 6));
    v.lose(5, 2, 7);
    v.lose(5, 2, 0);
    v.dust(5, 2, 6);
    due(2, () -> v.ofBlock(5, 2, 4));
    due(6, () -> v.ofBlock(5, 2, 5));
    due(141, () -> v.ofBlock(5, 2, 2));
    due(INDEX, () -> v.ofBlock(5, 4, 7));
    due(INDEX, () -> v.ofBlock(-1, 0, 0));
    due(ARGUMENT, () -> v.ofBlock(5, 2, 7));
    due(ARGUMENT, () -> v.ofBlock(5, 2, -1));
  }

  private static void promise27() {
    promise = 27;
    Longtapevault v = new Longtapevault();
    v.put(999, 2, 255, 20);
    v.store(0, 0, 64, 0);
    due(3, () -> v.byteAt(0, 2, 0));
    due(231, () -> v.byteAt(0, 2, 1));
    due(2, () -> v.byteAt(0, 2, 2));
    due(255, () -> v.byteAt(0, 2, 3));
    due((255 + 37 * 19 + 999) % 256, () -> v.byteAt(0, 2, 23));
    due(INDEX, () -> v.byteAt(0, 2, 24));
    due(INDEX, () -> v.byteAt(0, 2, -1));
    due(INDEX, () -> v.byteAt(0, 4, 0));
    due(INDEX, () -> v.byteAt(6, 0, 0));
    v.dust(0, 2, 9);
    for (int t = 0; t < 9; t++) {
      Longtapevault w = new Longtapevault();
      w.put(999, 2, 255, 20);
      w.store(0, 0, 64, 0);
      w.lose(0, 2, t);
      for (int i = 0; i < 24; i++) {
        int place = i;
        due(v.byteAt(0, 2, i), () -> w.byteAt(0, 2, place));
      }
    }
    v.lose(0, 2, 8);
    due(231, () -> v.byteAt(0, 2, 1));
    v.lose(0, 2, 1);
    due(-9, () -> v.byteAt(0, 2, 1));
    due(INDEX, () -> v.byteAt(0, 2, 24));
  }

  private static void promise28() {
    promise = 28;
    Longtapevault v = new Longtapevault();
    // Bytes 0, 7, 1, 128: an odd number of ones in all, so track 8 is 1 where they are even.
    v.put(7, 1, 128, 0);
    v.store(0, 0, 8, 0);
    due("0110", () -> v.track(0, 2, 0));
    due("0100", () -> v.track(0, 2, 1));
    due("0001", () -> v.track(0, 2, 7));
    due("1000", () -> v.track(0, 2, 8));
    v.lose(0, 2, 8);
    v.lose(0, 2, 0);
    due("????", () -> v.track(0, 2, 8));
    due("????", () -> v.track(0, 2, 0));
    due("0100", () -> v.track(0, 2, 2));
    due("10000000", () -> v.track(0, 0, 7));
    due(INDEX, () -> v.track(0, 4, 9));
    due(INDEX, () -> v.track(6, 0, 0));
    due(ARGUMENT, () -> v.track(0, 2, 9));
    due(ARGUMENT, () -> v.track(0, 2, -1));
  }

  private static void promise29() {
    promise = 29;
    Longtapevault v = with(1, 0);
    v.store(0, 0, 8, 3);
    due(4, () -> v.ofReel(3, 0));
    due(76, () -> v.ofReel(3, 1));
    due(0, () -> v.ofReel(3, 2));
    v.open(0, false);
    v.next();
    due(56, () -> v.ofReel(3, 2));
    v.snap(3, 2);
    due(2, () -> v.ofReel(3, 0));
    due(40, () -> v.ofReel(3, 1));
    due(56, () -> v.ofReel(3, 2));
    due(INDEX, () -> v.ofReel(6, 3));
    due(INDEX, () -> v.ofReel(-1, 0));
    due(ARGUMENT, () -> v.ofReel(0, 3));
    due(ARGUMENT, () -> v.ofReel(0, -1));
  }

  private static void promise30() {
    promise = 30;
    Longtapevault v = with(5, 0);
    v.store(0, 0, 8, 3);
    due("V H D8 D8 D4 T", () -> v.map(3));
    v.store(0, 1, 8, 3);
    due("V H D8 D8 D4 T H D5 D5 D5 D5 C D5 T", () -> v.map(3));
    v.store(0, 0, 40, 2);
    due("V H D20 T", () -> v.map(2));
    due(INDEX, () -> v.map(6));
    due(INDEX, () -> v.map(-1));
  }

  private static void promise31() {
    promise = 31;
    Longtapevault v = with(2, 1);
    int[] fresh = {0, 0, 0, 0, -1, 0, -1};
    for (int w = 0; w < 7; w++) {
      int what = w;
      due(fresh[w], () -> v.drive(what));
    }
    v.store(0, 0, 8, 4);
    v.open(0, false);
    v.next();
    int[] then = {4, 3, 1, 81, 0, 1, 2};
    for (int w = 0; w < 7; w++) {
      int what = w;
      due(then[w], () -> v.drive(what));
    }
    due(ARGUMENT, () -> v.drive(7));
    due(ARGUMENT, () -> v.drive(-1));
  }

  private static void promise32() {
    promise = 32;
    Longtapevault v = with(2, 1);
    v.store(0, 0, 8, 4);
    v.store(0, 0, 8, 5);
    v.put(9, 0, 0, 0);
    v.lose(4, 2, 1);
    v.lose(4, 2, 2);
    v.lose(0, 0, 0);
    v.dust(5, 2, 1);
    v.dust(5, 3, 1);
    v.dust(5, 3, 0);
    v.knock();
    v.snap(5, 4);
    int[] want = {2, 3, 13, 2, 1, 2, 1};
    for (int w = 0; w < 7; w++) {
      int what = w;
      due(want[w], () -> v.count(what));
    }
    v.snap(4, 2);
    due(1, () -> v.count(3));
    due(0, () -> v.count(5));
    due(ARGUMENT, () -> v.count(7));
    due(ARGUMENT, () -> v.count(-1));
  }

  private static void promise33() {
    promise = 33;
    due(true, () -> new Longtapevault().isSound());
    Longtapevault v = new Longtapevault();
    for (int i = 0; i < 40; i++) {
      v.put((i * 373 + 11) % 1000, i % 3, (i * 91) % 256, i % 21);
    }
    v.store(0, 1, 64, 0);
    v.store(1, 2, 8, 1);
    v.clear();
    for (int i = 0; i < 40; i++) {
      v.put(999 - i, 0, i, 4);
    }
    v.store(2, 0, 17, 4);
    due(true, v::isSound);
    for (int t = 0; t < 9; t++) {
      v.lose(0, 2 + t % 3, t);
      v.lose(4, 2 + t, t);
      due(true, v::isSound);
    }
    v.snap(1, 20);
    due(true, v::isSound);
    v.snap(0, 4);
    v.store(3, 2, 8, 0);
    due(true, v::isSound);
    for (int i = 0; i < 40; i++) {
      Longtapevault w = new Longtapevault();
      for (int k = 0; k <= i; k++) {
        w.put((40 - k) * 3 % 17, 0, k, 0);
      }
      due(true, w::isSound);
    }
  }

  private static void promise34() {
    promise = 34;
    due(-5522682087907816637L, () -> new Longtapevault().digest());
    Longtapevault v = with(3, 1);
    long before = v.digest();
    due(before, v::digest);
    due(before, () -> with(3, 1).digest());
    v.knock();
    due(true, () -> v.digest() != before);
    v.store(0, 2, 8, 0);
    long stored = v.digest();
    v.dust(0, 3, 1);
    due(true, () -> v.digest() != stored);
    v.dust(0, 3, 0);
    due(stored, v::digest);
    v.open(0, false);
    due(true, () -> v.digest() != stored);
  }
}
