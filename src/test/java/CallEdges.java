import java.math.BigInteger;
import java.util.ArrayList;
import java.util.List;

/** The edges of the promises themselves: a new vault, the arguments of each call, which exception goes ahead, digest. */
final class CallEdges {
  // REEL 2 is V H D8 D4 T, with three RECORDS of four BYTES.
  private static final String[] ONE = {"desk 3 0", "store(4, 0, 8, 2)"};

  private CallEdges() {}

  static void all() {
    fresh();
    calls();
    exceptions();
    brokenThings();
    files();
    records();
    data();
    names();
    blocks();
    reels();
    driveAndCount();
    sound();
    digest();
  }

  private static void one(String sentence, String... lines) {
    List<String> all = new ArrayList<>(List.of(ONE));
    all.addAll(List.of(lines));
    Sentences.sentence(sentence, all.toArray(new String[0]));
  }

  private static void fresh() {
    Sentences.sentence("a vault with six reels, each with its label alone",
        "each map(#) = 'V' 'V' 'V' 'V' 'V' 'V' INDEX", "each ofReel(#, 0) = 1 1 1 1 1 1 INDEX",
        "each ofReel(#, 2) = 0 0 0 0 0 0 INDEX", "each byteAt(#, 0, 1) = 0 1 2 3 4 5 INDEX", "each count(#) = 0 0 6 0 0 0 0 ARGUMENT",
        "each drive(#) = 0 0 0 0 -1 0 -1 ARGUMENT", "clear() => 0", "stop() => 0", "refusals() => ''", "isSound() => true",
        "digest() => -5522682087907816637");
    Sentences.sentence("a new vault has nothing that could be asked for",
        "take(0) -> INDEX", "update(0) -> INDEX", "copy(0, 8, 0) -> INDEX", "open(0, true) -> INDEX", "deskAt(0, 0) -> INDEX",
        "recordOf(0, 0, 0) -> INDEX", "ofFile(0, 0) -> INDEX", "dataOf(0, 0, 0) -> INDEX", "next() -> STATE", "back() -> STATE",
        "snap(0, 0) -> ARGUMENT", "snap(0, 1) -> INDEX", "find(0, 0) => -1");
  }

  private static void calls() {
    // Four calls ahead of the 505, and three behind.
    Sentences.sentence("An object is used for at most 512 calls: the last one of them is answered, too",
        "desk 2 0", "store(0, 0, 8, 0)", "open(0, false)", "505 * knock()", "next() -> 1", "next() -> 2", "knock() -> 506");
  }

  private static void exceptions() {
    List<String> lines = new ArrayList<>(List.of("desk 1 0", "10 * store(1, 0, 8, 0)", "9 * store(1, 0, 8, 1)", "store(0, 0, 8, 0) -> 19",
        "clear()"));
    lines.addAll(List.of("store(10, 3, 7, 6) -> INDEX", "store(0, 0, 8, -1) -> INDEX", "store(10, 0, 8, 0) -> ARGUMENT",
        "store(0, 3, 8, 0) -> ARGUMENT", "store(0, 0, 65, 0) -> ARGUMENT", "store(0, 0, 8, 0) -> STATE", "copy(20, 7, 0) -> INDEX",
        "copy(0, 7, 6) -> INDEX", "copy(-1, 8, 0) -> INDEX", "copy(0, 8, -1) -> INDEX", "copy(0, 7, 0) -> ARGUMENT", "copy(0, 8, 0) -> STATE",
        "snap(0, 2)", "take(0) -> -9", "copy(0, 65, 0) -> ARGUMENT", "copy(0, 8, 0) -> STATE"));
    Sentences.sentence("the one that is named first is thrown; exceptions go ahead of -9: with 20 FILES and none on the DESK",
        lines.toArray(new String[0]));
    Sentences.sentence("exceptions go ahead of -9: the DESK is empty",
        "store(0, 0, 8, 6) -> INDEX", "store(0, 0, 7, 0) -> ARGUMENT", "store(0, -1, 8, 0) -> ARGUMENT",
        "store(-1, 0, 8, 0) -> ARGUMENT", "store(0, 0, 8, 0) -> -9");
    one("exceptions go ahead of -9: what cannot be READ",
        "dust(2, 2, 9)", "copy(0, 7, 0) -> ARGUMENT", "copy(0, 8, 6) -> INDEX", "copy(0, 8, 0) -> -9", "take(1) -> INDEX",
        "take(0) -> -9", "update(1) -> INDEX", "update(0) -> -9", "lose(2, 2, 0)", "lose(2, 2, 1)", "byteAt(2, 2, 8) -> INDEX",
        "byteAt(2, 2, 7) -> -9");
    one("A method that throws an exception changes nothing: with a FILE that is OPEN and a DRIVE that MOVES",
        "open(0, false)", "next() -> 1", "snap(2, 0) -> ARGUMENT", "snap(2, 5) -> INDEX", "snap(6, 1) -> INDEX", "open(1, true) -> INDEX",
        "open(-1, true) -> INDEX", "put(-1, 0, 0, 0) -> ARGUMENT", "sort(2, 1) -> ARGUMENT", "lose(2, 2, 9) -> ARGUMENT",
        "dust(2, 2, 10) -> ARGUMENT", "store(0, 0, 8, 6) -> INDEX", "drive(7) -> ARGUMENT", "each drive(#) = 2 3 1 84 0 1 2");
  }

  private static void brokenThings() {
    one("lose: no such REEL or BLOCK, or TRACK",
        "lose(-1, 0, 0) -> INDEX", "lose(6, 0, 0) -> INDEX", "lose(MIN, 0, 0) -> INDEX", "lose(MAX, 0, 0) -> INDEX",
        "lose(2, -1, 0) -> INDEX", "lose(2, 5, 0) -> INDEX", "lose(2, MIN, 0) -> INDEX", "lose(2, MAX, 0) -> INDEX",
        "lose(2, 5, 9) -> INDEX", "lose(6, 0, -1) -> INDEX", "lose(2, 4, 9) -> ARGUMENT", "lose(2, 4, -1) -> ARGUMENT",
        "lose(2, 4, MIN) -> ARGUMENT", "lose(2, 4, MAX) -> ARGUMENT", "lose(2, 4, 8) -> 1", "lose(2, 4, 0) -> 2", "lose(0, 0, 0) -> 1",
        "lose(5, 0, 8) -> 1", "lose(2, 4, 8) => 2", "each ofBlock(2, #, 4) = 0 0 0 0 2 INDEX");
    one("dust: no such REEL or BLOCK, or DUST",
        "dust(-1, 0, 0) -> INDEX", "dust(6, 0, 0) -> INDEX", "dust(MIN, 0, 0) -> INDEX", "dust(MAX, 0, 0) -> INDEX",
        "dust(2, -1, 0) -> INDEX", "dust(2, 5, 0) -> INDEX", "dust(2, MIN, 0) -> INDEX", "dust(2, MAX, 0) -> INDEX",
        "dust(2, 5, 10) -> INDEX", "dust(6, 0, -1) -> INDEX", "dust(2, 4, 10) -> ARGUMENT", "dust(2, 4, -1) -> ARGUMENT",
        "dust(2, 4, MIN) -> ARGUMENT", "dust(2, 4, MAX) -> ARGUMENT", "dust(2, 4, 9) -> 0", "dust(2, 4, 9) => 9", "dust(0, 0, 1) -> 0",
        "dust(5, 0, 1) -> 0", "each ofBlock(2, #, 5) = 0 0 0 0 9 INDEX", "dust(2, 4, 0) -> 9", "ofBlock(2, 4, 5) -> 0");
    one("snap: no such REEL or BLOCK, or BLOCK 0",
        "snap(-1, 0) -> INDEX", "snap(6, 0) -> INDEX", "snap(MIN, 1) -> INDEX", "snap(MAX, 1) -> INDEX", "snap(2, -1) -> INDEX",
        "snap(2, 5) -> INDEX", "snap(2, MIN) -> INDEX", "snap(2, MAX) -> INDEX", "snap(2, 0) -> ARGUMENT", "snap(0, 0) -> ARGUMENT",
        "snap(0, 1) -> INDEX", "snap(2, 4) -> 1", "snap(2, 1) -> 3", "snap(2, 1) -> INDEX");
    one("count of BLOCKS with lost TRACKS, and with DUST: what is gone does not count",
        "each count(#) = 1 3 10 0 0 3 0 ARGUMENT", "lose(2, 3, 0)", "lose(2, 3, 1)", "lose(2, 0, 1)", "dust(2, 3, 9)", "dust(2, 4, 1)",
        "dust(2, 0, 1)", "each count(#) = 1 3 10 2 3 3 0 ARGUMENT", "dust(2, 4, 0)", "count(4) -> 2", "snap(2, 3) -> 2",
        "each count(#) = 1 3 8 1 1 0 0 ARGUMENT");
  }

  private static void files() {
    one("take, update, open: no such FILE",
        "take(-1) -> INDEX", "take(1) -> INDEX", "take(MIN) -> INDEX", "take(MAX) -> INDEX", "take(0) -> 3", "update(-1) -> INDEX",
        "update(1) -> INDEX", "update(MIN) -> INDEX", "update(MAX) -> INDEX", "update(0) -> 3", "open(-1, false) -> INDEX",
        "open(1, false) -> INDEX", "open(MIN, true) -> INDEX", "open(MAX, true) -> INDEX", "open(0, false) -> 3", "drive(5) -> 0",
        "open(0, true) -> 3", "drive(5) -> 3");
    one("copy: no such FILE, or REEL",
        "copy(-1, 8, 0) -> INDEX", "copy(1, 8, 0) -> INDEX", "copy(MIN, 8, 0) -> INDEX", "copy(MAX, 8, 0) -> INDEX",
        "copy(0, 8, -1) -> INDEX", "copy(0, 8, 6) -> INDEX", "copy(0, 8, MIN) -> INDEX", "copy(0, 8, MAX) -> INDEX",
        "copy(0, 8, 0) -> 1", "copy(0, 64, 5) -> 2", "map(0) -> 'V H D8 D4 T'", "map(5) -> 'V H D12 T'");
    Sentences.sentence("copy: -9 as with store()",
        "longs 20", "store(0, 1, 25, 0)", "copy(0, 24, 0) -> -9", "copy(0, 25, 0) -> 1", "clear()", "longs 4", "store(0, 0, 8, 0)",
        "copy(2, 8, 0) -> 3", "snap(0, 1)", "copy(2, 8, 0) -> -9");
    one("ofFile: no such FILE, or what",
        "each ofFile(0, #) = 4 0 8 3 2 1 3 0 ARGUMENT", "ofFile(0, -1) -> ARGUMENT", "ofFile(0, MIN) -> ARGUMENT",
        "ofFile(0, MAX) -> ARGUMENT", "ofFile(1, 0) -> INDEX", "ofFile(-1, 0) -> INDEX", "ofFile(MIN, 0) -> INDEX",
        "ofFile(MAX, 0) -> INDEX", "ofFile(1, 8) -> INDEX", "ofFile(-1, -1) -> INDEX");
  }

  private static void records() {
    one("deskAt: no such place, or what",
        "each deskAt(0, #) = 1 0 1 0 ARGUMENT", "each deskAt(2, #) = 3 0 3 0 ARGUMENT", "deskAt(0, -1) -> ARGUMENT",
        "deskAt(0, MIN) -> ARGUMENT", "deskAt(0, MAX) -> ARGUMENT", "deskAt(3, 0) -> INDEX", "deskAt(-1, 0) -> INDEX",
        "deskAt(MIN, 0) -> INDEX", "deskAt(MAX, 0) -> INDEX", "deskAt(3, 4) -> INDEX", "deskAt(-1, -1) -> INDEX");
    one("recordOf: no such FILE or place, or what",
        "each recordOf(0, 0, #) = 1 0 1 0 0 0 ARGUMENT", "each recordOf(0, 2, #) = 3 0 3 0 1 1 ARGUMENT",
        "recordOf(0, 0, -1) -> ARGUMENT", "recordOf(0, 0, MIN) -> ARGUMENT", "recordOf(0, 0, MAX) -> ARGUMENT", "recordOf(0, 3, 0) -> INDEX",
        "recordOf(0, -1, 0) -> INDEX", "recordOf(0, MIN, 0) -> INDEX", "recordOf(0, MAX, 0) -> INDEX", "recordOf(1, 0, 0) -> INDEX",
        "recordOf(-1, 0, 0) -> INDEX", "recordOf(MIN, 0, 0) -> INDEX", "recordOf(MAX, 0, 0) -> INDEX", "recordOf(0, 3, 6) -> INDEX",
        "recordOf(1, 0, 6) -> INDEX");
    one("recordOf: as it was STORED",
        "clear()", "snap(2, 1)", "each recordOf(0, #, 0) = 1 2 3 INDEX", "each recordOf(0, 2, #) = 3 0 3 0 1 1 ARGUMENT");
    Sentences.sentence("recordOf: the number of the first DATA BLOCK in which it has BYTES, of the last one",
        // Three BLOCKS with 8 BYTES each, and a fourth, in which the second RECORD has 6 of 10.
        "longs 20 0 20", "store(0, 2, 10, 0)", "each recordOf(0, 0, #) = 1 0 1 20 0 2", "each recordOf(0, 1, #) = 2 0 2 0 3 3",
        // In the 4 left there are two BYTES of the third RECORD, and 22 more in three BLOCKS.
        "each recordOf(0, 2, #) = 3 0 3 20 3 6",
        // The same in fewer BLOCKS, as another FILE.
        "store(0, 2, 64, 0)", "each recordOf(1, #, 4) = 0 0 0 INDEX", "each recordOf(1, #, 5) = 0 0 0 INDEX",
        "each recordOf(0, #, 4) = 0 3 3 INDEX", "each recordOf(0, #, 5) = 2 3 6 INDEX", "new", "longs 0 0 0 0 0", "store(0, 0, 9, 0)", "each recordOf(0, #, 4) = 0 0 1 1 2 INDEX",
        "each recordOf(0, #, 5) = 0 0 1 1 2 INDEX");
  }

  private static void data() {
    one("dataOf: no such FILE or DATA BLOCK, or what",
        "each dataOf(0, 0, #) = 2 2 1 1 ARGUMENT", "each dataOf(0, 1, #) = 2 3 1 1 ARGUMENT", "dataOf(0, 0, -1) -> ARGUMENT",
        "dataOf(0, 0, MIN) -> ARGUMENT", "dataOf(0, 0, MAX) -> ARGUMENT", "dataOf(0, 2, 0) -> INDEX", "dataOf(0, -1, 0) -> INDEX",
        "dataOf(0, MIN, 0) -> INDEX", "dataOf(0, MAX, 0) -> INDEX", "dataOf(1, 0, 0) -> INDEX", "dataOf(-1, 0, 0) -> INDEX",
        "dataOf(MIN, 0, 0) -> INDEX", "dataOf(MAX, 0, 0) -> INDEX", "dataOf(0, 2, 4) -> INDEX", "dataOf(1, 0, -1) -> INDEX");
    one("dataOf: 1 if it is THERE and can be READ, otherwise 0",
        "snap(2, 3)", "each dataOf(0, 0, #) = 2 2 1 1 ARGUMENT", "each dataOf(0, 1, #) = 2 3 0 0 ARGUMENT", "dust(2, 2, 3)",
        "each dataOf(0, 0, #) = 2 2 1 0 ARGUMENT", "dust(2, 2, 2)", "lose(2, 2, 8)", "each dataOf(0, 0, #) = 2 2 1 1 ARGUMENT",
        "lose(2, 2, 7)", "each dataOf(0, 0, #) = 2 2 1 0 ARGUMENT", "each dataOf(0, 1, #) = 2 3 0 0 ARGUMENT");
  }

  private static void names() {
    one("find: NAME is not 0 to 9, or back below 0",
        "find(0, 0) => -1", "find(4, 0) => 0", "find(9, 0) => -1", "find(10, 0) -> ARGUMENT", "find(-1, 0) -> ARGUMENT",
        "find(MIN, 0) -> ARGUMENT", "find(MAX, 0) -> ARGUMENT", "find(4, -1) -> ARGUMENT", "find(4, MIN) -> ARGUMENT", "find(4, 1) => -1",
        "find(4, MAX) => -1", "find(10, -1) -> ARGUMENT");
  }

  private static void blocks() {
    one("ofBlock: no such REEL or BLOCK, or what",
        "each ofBlock(2, 2, #) = 4 8 " + check(0, 1, 0, 1, 0, 2, 0, 2) + " 0 0 0 0 ARGUMENT",
        "each ofBlock(2, 0, #) = 0 8 " + check(200, 2, 0, 0, 0, 0, 0, 0) + " 202 0 0 -1 ARGUMENT",
        "each ofBlock(2, 4, #) = 3 8 " + check(203, 0, 0, 2, 3, 0, 0, 0) + " " + (203 ^ 2 ^ 3) + " 0 0 0 ARGUMENT",
        "ofBlock(2, 2, -1) -> ARGUMENT", "ofBlock(2, 2, MIN) -> ARGUMENT", "ofBlock(2, 2, MAX) -> ARGUMENT", "ofBlock(2, 5, 0) -> INDEX",
        "ofBlock(2, -1, 0) -> INDEX", "ofBlock(2, MIN, 0) -> INDEX", "ofBlock(2, MAX, 0) -> INDEX", "ofBlock(6, 0, 0) -> INDEX",
        "ofBlock(-1, 0, 0) -> INDEX", "ofBlock(MIN, 0, 0) -> INDEX", "ofBlock(MAX, 0, 0) -> INDEX", "ofBlock(2, 5, 7) -> INDEX",
        "ofBlock(6, 0, -1) -> INDEX");
    one("CHECK and ACROSS as it was written",
        "lose(2, 4, 0)", "lose(2, 4, 1)", "ofBlock(2, 4, 2) -> " + check(203, 0, 0, 2, 3, 0, 0, 0), "ofBlock(2, 4, 3) -> " + (203 ^ 2 ^ 3),
        "lose(2, 4, 8)", "dust(2, 4, 9)", "ofBlock(2, 4, 2) -> " + check(203, 0, 0, 2, 3, 0, 0, 0), "each byteAt(2, 4, #) = -9 -9 -9 -9");
    one("its FILE (NONE of a VOLUME LABEL)",
        "store(4, 0, 64, 2)", "each ofBlock(2, #, 6) = -1 0 0 0 0 1 1 1 INDEX", "ofBlock(5, 0, 6) -> -1");
    one("byteAt: no such REEL or BLOCK, or place",
        "each byteAt(2, 3, #) = 0 3 0 3 INDEX", "byteAt(2, 3, -1) -> INDEX", "byteAt(2, 3, MIN) -> INDEX", "byteAt(2, 3, MAX) -> INDEX",
        "byteAt(2, 5, 0) -> INDEX", "byteAt(2, -1, 0) -> INDEX", "byteAt(2, MIN, 0) -> INDEX", "byteAt(2, MAX, 0) -> INDEX",
        "byteAt(6, 0, 0) -> INDEX", "byteAt(-1, 0, 0) -> INDEX", "byteAt(MIN, 0, 0) -> INDEX", "byteAt(MAX, 0, 0) -> INDEX",
        "byteAt(2, 4, 7) -> 0", "byteAt(2, 4, 8) -> INDEX");
    one("-9 if more than one TRACK is lost (DUST does not matter)",
        "dust(2, 3, 9)", "byteAt(2, 3, 1) -> 3", "lose(2, 3, 0)", "byteAt(2, 3, 1) -> 3", "lose(2, 3, 1)", "byteAt(2, 3, 1) -> -9",
        "dust(2, 3, 0)", "byteAt(2, 3, 1) -> -9", "byteAt(2, 3, 4) -> INDEX");
    one("track: no such REEL or BLOCK, or TRACK",
        "track(2, 3, 0) => '0101'", "track(2, 3, 8) => '1111'", "track(2, 3, 9) -> ARGUMENT", "track(2, 3, -1) -> ARGUMENT",
        "track(2, 5, 0) -> INDEX", "track(2, -1, 0) -> INDEX", "track(2, MIN, 0) -> INDEX", "track(2, MAX, 0) -> INDEX",
        "track(6, 0, 0) -> INDEX", "track(-1, 0, 0) -> INDEX", "track(MIN, 0, 0) -> INDEX", "track(MAX, 0, 0) -> INDEX",
        "track(2, 5, 9) -> INDEX", "track(6, 0, -1) -> INDEX");
    one("those of a lost TRACK as \"?\"",
        "lose(2, 3, 0)", "track(2, 3, 0) => '????'", "track(2, 3, 1) => '0101'", "track(2, 3, 8) => '1111'", "lose(2, 3, 8)",
        "track(2, 3, 8) => '????'", "track(2, 3, 0) => '????'", "track(2, 3, 7) => '0000'");
  }

  /** CHECK told by arithmetic. */
  private static int check(int... bytes) {
    int told = 0;
    for (int value : bytes) {
      told = (told * 2 % 256 + (told >= 128 ? 1 : 0)) ^ value;
    }
    return told;
  }

  private static void reels() {
    one("ofReel: REEL is not 0 to 5, or what",
        "each ofReel(2, #) = 5 96 0 ARGUMENT", "ofReel(2, -1) -> ARGUMENT", "ofReel(2, MIN) -> ARGUMENT", "ofReel(2, MAX) -> ARGUMENT",
        "ofReel(6, 0) -> INDEX", "ofReel(-1, 0) -> INDEX", "ofReel(MIN, 0) -> INDEX", "ofReel(MAX, 0) -> INDEX", "ofReel(6, 3) -> INDEX",
        "ofReel(-1, -1) -> INDEX");
    one("map: with one blank between",
        "map(2) => 'V H D8 D4 T'", "map(0) => 'V'", "store(0, 0, 64, 2)", "map(2) => 'V H D8 D4 T H D12 T'", "snap(2, 1)",
        "map(2) => 'V'");
  }

  private static void driveAndCount() {
    one("drive: what is not 0 to 6",
        "drive(-1) -> ARGUMENT", "drive(7) -> ARGUMENT", "drive(MIN) -> ARGUMENT", "drive(MAX) -> ARGUMENT",
        "each drive(#) = 0 0 0 0 -1 0 -1 ARGUMENT", "open(0, true)", "each drive(#) = 0 0 0 0 0 3 -1 ARGUMENT", "back() -> 3",
        // 50, over 80 UNITS 10 and 3, 6, 16.
        "each drive(#) = 2 3 2 85 0 2 3 ARGUMENT");
    one("count: what is not 0 to 6",
        "count(-1) -> ARGUMENT", "count(7) -> ARGUMENT", "count(MIN) -> ARGUMENT", "count(MAX) -> ARGUMENT",
        "each count(#) = 1 3 10 0 0 3 0 ARGUMENT", "store(4, 2, 8, 0)", "count(5) -> 6", "snap(0, 4)", "count(5) -> 3",
        "each count(#) = 2 3 13 0 0 3 0 ARGUMENT");
  }

  private static void sound() {
    Sentences.sentence("isSound: none, one, and all 40 on the DESK",
        "isSound() => true", "put(999, 2, 255, 20)", "isSound() => true", "39 * put(5, 1, 0, 20)", "isSound() => true", "store(0, 2, 8, 0)",
        "isSound() => true", "sort(3, 1) -> 1", "isSound() => true", "clear()", "isSound() => true",
        "new", "longs 20", "3 * store(0, 0, 64, 0)", "2 * store(0, 1, 64, 0)", "2 * store(0, 2, 8, 0)", "isSound() => true",
        "lose(0, 2, 8) -> 1", "isSound() => true");
    Sentences.sentence("isSound: with no, one, and more than one TRACK lost, and not all THERE",
        "desk 40 20", "store(0, 2, 8, 0)", "each lose(0, 2, #) = 1 2 3", "isSound() => true", "each lose(0, 0, #) = 1 2", "lose(1, 3, 8)",
        "isSound() => true", "snap(1, 3)", "isSound() => true", "snap(0, 1)", "isSound() => true");
    // Of memory 2 there are as many RUNS as pairs, if all KEYS fall: 7, 8, and 9 of them.
    for (int pairs = 7; pairs <= 9; pairs++) {
      List<String> lines = new ArrayList<>();
      for (int key = 2 * pairs; key > 0; key--) {
        lines.add("put(" + key + ", 0, 0, 0)");
      }
      lines.add("runs(2) -> '" + "2 ".repeat(pairs - 1) + "2'");
      lines.add("isSound() => true");
      Sentences.sentence("isSound: as many RUNS as there are for memory 2, up to 8: " + pairs, lines.toArray(new String[0]));
    }
  }

  private static void digest() {
    Longtapevault vault = new Longtapevault();
    due("digest of a new vault", vault);
    vault.put(700, 1, 3, 2);
    vault.put(7, 0, 250, 20);
    due("digest with RECORDS on the DESK", vault);
    vault.store(9, 2, 10, 1);
    vault.store(9, 1, 64, 0);
    vault.update(0);
    vault.put(2, 2, 0, 0);
    vault.put(1, 2, 0, 0);
    vault.update(1);
    due("digest with FILES and REFUSALS", vault);
    vault = new Longtapevault();
    vault.put(700, 1, 3, 2);
    vault.put(7, 0, 250, 20);
    vault.store(0, 2, 10, 1);
    vault.lose(1, 3, 4);
    vault.dust(1, 4, 2);
    vault.knock();
    vault.open(0, true);
    vault.back();
    due("digest with all that it holds", vault);
    vault.snap(1, 1);
    vault.clear();
    due("digest of what is gone", vault);
    digestOfLengths();
  }

  /** Numbers of one, two and three digits: KEYS that are REFUSED, lengths of RUNS, BYTES of DATA BLOCKS. */
  private static void digestOfLengths() {
    int[] keys = {0, 9, 10, 99, 100, 999};
    for (int key : keys) {
      Longtapevault vault = new Longtapevault();
      vault.put(5, 0, 0, 0);
      vault.store(0, 0, 8, 0);
      vault.put(key, 2, 0, 0);
      vault.update(0);
      due("digest: the length of refusals(), " + key, vault);
    }
    for (int records = 8; records <= 11; records++) {
      Longtapevault vault = new Longtapevault();
      for (int i = 0; i < records; i++) {
        vault.put(i, 0, 0, 0);
      }
      due("digest: the lengths of runs(), " + records, vault);
    }
    for (int length = 4; length <= 7; length++) {
      Longtapevault vault = new Longtapevault();
      vault.put(1, 0, 0, length);
      vault.store(0, 0, 64, 0);
      due("digest: the length of map(), D" + (4 + length), vault);
    }
  }

  /** Told with numbers that do not wrap around, and only then cut to 64 bits. */
  private static void due(String sentence, Longtapevault vault) {
    List<Integer> all = new ArrayList<>();
    for (int what = 0; what <= 6; what++) {
      all.add(vault.count(what));
    }
    for (int place = 0; place < vault.count(1); place++) {
      for (int what = 0; what <= 3; what++) {
        all.add(vault.deskAt(place, what));
      }
    }
    for (int memory = 1; memory <= 8; memory++) {
      all.add(vault.runs(memory).length());
    }
    all.add(vault.refusals().length());
    for (int file = 0; file < vault.count(0); file++) {
      for (int what = 0; what <= 7; what++) {
        all.add(vault.ofFile(file, what));
      }
      for (int place = 0; place < vault.ofFile(file, 3); place++) {
        all.addAll(List.of(vault.recordOf(file, place, 0), vault.recordOf(file, place, 4), vault.recordOf(file, place, 5)));
      }
    }
    for (int reel = 0; reel < 6; reel++) {
      all.addAll(List.of(vault.ofReel(reel, 0), vault.ofReel(reel, 1), vault.ofReel(reel, 2), vault.map(reel).length()));
      for (int block = 0; block < vault.ofReel(reel, 0); block++) {
        for (int what = 0; what <= 6; what++) {
          all.add(vault.ofBlock(reel, block, what));
        }
      }
    }
    for (int what = 0; what <= 6; what++) {
      all.add(vault.drive(what));
    }
    for (int name = 0; name <= 9; name++) {
      all.add(vault.find(name, 0));
    }
    all.add(vault.isSound() ? 1 : 0);
    BigInteger d = BigInteger.valueOf(6409);
    for (int v : all) {
      d = d.multiply(BigInteger.valueOf(31)).add(BigInteger.valueOf(v));
    }
    Sentences.due(sentence + ", which wraps around as a 64-bit integer", d.longValue(), vault.digest());
  }
}
