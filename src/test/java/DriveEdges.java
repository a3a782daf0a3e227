/**
 * The edges of section 3: what can be READ, and what the DRIVE does. In most runs REEL 0 is V H D5 D5 D5 D5 C D5 T: the
 * DATA BLOCKS 2, 3, 4, 5 and 7 have 17 UNITS, the LABELS 20. drive() of 0 to 6 is REEL, GAP, MOVES, TIME, FILE, PLACE, BUFFER.
 */
final class DriveEdges {
  private static final String[] FIVE = {"desk 5 1", "store(0, 0, 8, 0)", "open(0, false) -> 5"};

  private DriveEdges() {}

  static void all() {
    dust();
    lostTracks();
    buffer();
    otherReels();
    winding();
    moving();
    ticks();
    wear();
    places();
    recordsOfMoreBlocks();
    resting();
    breaks();
  }

  private static void five(String sentence, String... lines) {
    String[] all = new String[FIVE.length + lines.length];
    System.arraycopy(FIVE, 0, all, 0, FIVE.length);
    System.arraycopy(lines, 0, all, FIVE.length, lines.length);
    Sentences.sentence(sentence, all);
  }

  private static void dust() {
    five("DUST (0 to 9; 0 at first)",
        "each ofBlock(0, #, 5) = 0 0 0 0 0 0 0 0 0 INDEX", "dust(0, 2, 9) -> 0", "dust(0, 2, 0) -> 9", "dust(0, 2, 1) -> 0",
        "dust(0, 2, 10) -> ARGUMENT", "dust(0, 2, -1) -> ARGUMENT", "dust(0, 2, MAX) -> ARGUMENT", "dust(0, 2, MIN) -> ARGUMENT",
        "ofBlock(0, 2, 5) -> 1", "dust(0, 0, 8) -> 0", "dust(0, 8, 7) -> 0", "each ofBlock(0, #, 5) = 8 0 1 0 0 0 0 0 7 INDEX");
    five("a DATA BLOCK can be READ, if DUST is below 3",
        "dust(0, 2, 2)", "dataOf(0, 0, 3) -> 1", "next() -> 1",
        "new", "desk 5 1", "store(0, 0, 8, 0)", "open(0, false)", "dust(0, 2, 3)", "dataOf(0, 0, 3) -> 0", "next() -> -9",
        "take(0) -> -9", "copy(0, 8, 1) -> -9", "update(0) -> -9", "dust(0, 2, 4)", "next() -> -9", "dust(0, 2, 9)",
        "next() -> -9", "dust(0, 2, 2) -> 9", "take(0) -> 5", "next() -> 1");
    five("it takes DUST + 1 tries, and DUST is 0 then",
        "next() -> 1", "drive(3) -> 31", "dust(0, 3, 1)", "next() -> 2", "drive(3) -> 82", "ofBlock(0, 3, 5) -> 0",
        "dust(0, 4, 2)", "next() -> 3", "drive(3) -> 167", "ofBlock(0, 4, 5) -> 0", "next() -> 4", "drive(3) -> 184");
  }

  private static void lostTracks() {
    five("a DATA BLOCK can be READ, if at most one TRACK is lost",
        "dataOf(0, 0, 3) -> 1", "lose(0, 2, 4) -> 1", "dataOf(0, 0, 3) -> 1", "lose(0, 2, 4) -> 1", "dataOf(0, 0, 3) -> 1",
        "take(0) -> 5", "next() -> 1", "open(0, false)", "lose(0, 2, 8) -> 2", "dataOf(0, 0, 3) -> 0", "next() -> -9",
        "take(0) -> -9", "copy(0, 8, 1) -> -9", "update(0) -> -9", "lose(0, 2, 0) -> 3", "next() -> -9",
        "dataOf(0, 1, 3) -> 1");
    String[] tracks = new String[9 * 5 + 2];
    tracks[0] = "desk 5 1";
    tracks[1] = "9 * store(0, 0, 64, 0)";
    for (int track = 0; track < 9; track++) {
      int block = 2 + 3 * track;
      tracks[2 + 5 * track] = "lose(0, " + block + ", " + track + ") -> 1";
      // RECORDS 1 and 4 of five BYTES each: 0, 1, 0, 1, 2 and 0, 4, 0, 4, 8.
      tracks[3 + 5 * track] = "each byteAt(0, " + block + ", #) = 0 1 0 1 2";
      tracks[4 + 5 * track] = "byteAt(0, " + block + ", 16) -> 4";
      tracks[5 + 5 * track] = "track(0, " + block + ", " + track + ") -> '?????????????????????????'";
      tracks[6 + 5 * track] = "dataOf(0, " + track + ", 3) -> " + (track == 0 ? "1" : "INDEX");
    }
    Sentences.sentence("What is lost is told again from the others: each of the nine", tracks);
    Sentences.sentence("What is lost is told again from the others: BYTES with none and with eight ones",
        "put(255, 0, 255, 0)", "2 * store(0, 0, 8, 0)", "lose(0, 2, 8)", "each byteAt(0, 2, #) = 0 255 0 255 INDEX",
        "lose(0, 5, 7)", "each byteAt(0, 5, #) = 0 255 0 255 INDEX", "lose(0, 5, 6)", "each byteAt(0, 5, #) = -9 -9 -9 -9 INDEX",
        "byteAt(0, 5, -1) -> INDEX");
    Sentences.sentence("A BLOCK may have lost TRACKS: all nine",
        "each lose(0, 0, #) = 1 2 3 4 5 6 7 8 9 ARGUMENT", "lose(0, 0, 9) -> ARGUMENT", "lose(0, 0, -1) -> ARGUMENT",
        "lose(0, 0, 0) -> 9", "ofBlock(0, 0, 4) -> 9", "byteAt(0, 0, 0) -> -9", "track(0, 0, 0) -> '????????'", "count(3) -> 1");
  }

  private static void buffer() {
    Sentences.sentence("The DRIVE: a REEL (0 at first), a GAP (0 at first), MOVES (0 stands), TIME, the BUFFER: none",
        "each drive(#) = 0 0 0 0 -1 0 -1 ARGUMENT");
    five("if it is that of the BUFFER, nothing is done (DUST stays)",
        "next() -> 1", "each drive(#) = 0 3 1 31 0 1 2", "dust(0, 2, 2)", "back() -> 1", "each drive(#) = 0 3 1 31 0 0 2",
        "ofBlock(0, 2, 5) -> 2", "ofReel(0, 2) -> 57", "stop() -> 35", "next() -> 1", "each drive(#) = 0 3 0 35 0 1 2",
        "ofBlock(0, 2, 5) -> 2", "ofReel(0, 2) -> 57");
    Sentences.sentence("if it is that of the BUFFER: more RECORDS in one BLOCK",
        "desk 3 1", "store(0, 0, 64, 0)", "open(0, false)", "next() -> 1", "drive(3) -> 41", "next() -> 2", "next() -> 3",
        "next() => -1", "back() -> 3", "each drive(#) = 0 3 1 41 0 2 2");
    Sentences.sentence("that of the BUFFER: not that of another FILE, or with the same number on another REEL",
        "desk 1 1", "store(0, 0, 8, 0)", "store(0, 0, 8, 1)", "open(0, false)", "next() -> 1", "drive(3) -> 31", "open(1, false)",
        "next() -> 1", "each drive(#) = 1 3 1 112 1 1 2");
  }

  private static void otherReels() {
    Sentences.sentence("With another REEL: 50 ticks, GAP 0, it stands",
        "desk 2 1", "store(0, 0, 8, 0)", "store(0, 0, 8, 5)", "open(1, false)", "next() -> 1",
        // 50, over 40 UNITS 5 and 3, 6, 17.
        "each drive(#) = 5 3 1 81 1 1 2", "ofReel(0, 2) -> 0", "ofReel(5, 2) -> 57",
        // It moved, and its GAP was 3; neither counts: over 74 UNITS 10 and 3, 6, 17.
        "open(0, true)", "back() -> 2", "each drive(#) = 0 3 2 167 0 1 3", "ofReel(0, 2) -> 91", "ofReel(5, 2) -> 57");
    five("With another REEL: none with the same",
        "next() -> 1", "each drive(#) = 0 3 1 31 0 1 2", "new", "desk 1 1", "store(0, 0, 8, 1)", "open(0, false)", "next() -> 1",
        "drive(3) -> 81", "copy(0, 8, 1)", "open(1, false)", "next() -> 1",
        // GAP 3, to BLOCK 5 over 40 UNITS: 5 and 3, 6, 17, and no 50.
        "each drive(#) = 1 6 1 112 1 1 5");
  }

  private static void winding() {
    five("If GAP is not ahead of it (behind it): it is not WOUND if it is",
        "next() -> 1", "next() -> 2", "drive(3) -> 48", "copy(0, 8, 1)", "back() -> 2", "each drive(#) = 0 3 2 71 0 1 3");
    // A BLOCK of n BYTES and four LABELS ahead of the second FILE: 92 + n UNITS.
    Sentences.sentence("a tick for each 8 UNITS, begun ones, too, and 3 more: 96, 97, 104, 105 UNITS",
        "longs 0", "2 * store(0, 0, 8, 0)", "open(1, false)", "next() -> 1", "drive(3) -> 37",
        "new", "longs 1", "store(0, 0, 8, 0)", "clear()", "longs 0", "store(0, 0, 8, 0)", "open(1, false)", "next() -> 1",
        "drive(3) -> 38",
        "new", "longs 8", "store(0, 0, 12, 0)", "clear()", "longs 0", "store(0, 0, 8, 0)", "open(1, false)", "next() -> 1",
        "drive(3) -> 38",
        "new", "longs 9", "store(0, 0, 13, 0)", "clear()", "longs 0", "store(0, 0, 8, 0)", "open(1, false)", "next() -> 1",
        "drive(3) -> 39");
    five("UNITS of all BLOCKS between together",
        "next() -> 1", "next() -> 2", "drive(3) -> 48", "open(0, false)",
        // Two BLOCKS of 17 are 34: 5 (not 6) and 3, 6, 17.
        "next() -> 1", "each drive(#) = 0 3 1 79 0 1 2");
    five("it is WOUND: it stands then",
        "4 * next()", "each drive(#) = 0 6 1 82 0 4 5",
        // Over the CHECK LABEL 3 and 3, then 6 (it moved forward, and no 4), 17.
        "next() -> 5", "each drive(#) = 0 8 1 111 0 5 7", "ofReel(0, 2) -> 145");
    five("it is WOUND back: it stands then",
        "open(0, true)", "back() -> 5",
        // Over BLOCKS 0 to 7, 145 UNITS: 19 and 3, 6, 17.
        "each drive(#) = 0 7 2 45 0 4 7",
        // Over the CHECK LABEL 3 and 3, 6, 17.
        "back() -> 4", "each drive(#) = 0 5 2 74 0 3 5", "ofReel(0, 2) -> 199");
    five("all BLOCKS between: not the one that is READ, when it is READ back",
        "2 * next()", "drive(3) -> 48", "back() -> 2",
        // GAP 4 to 3 over BLOCK 3: 3 and 3, then 6, 17.
        "back() -> 1", "each drive(#) = 0 2 2 77 0 0 2", "ofReel(0, 2) -> 108");
  }

  private static void moving() {
    five("If it does not MOVE that way: 6, if it stands",
        "next() -> 1", "drive(3) -> 31", "stop() -> 35", "next() -> 2", "drive(3) -> 58");
    five("If it does not MOVE that way: nothing, if it does",
        "next() -> 1", "next() -> 2", "drive(3) -> 48", "next() -> 3", "drive(3) -> 65",
        "open(0, true)", "drive(2) -> 1", "4 * back()", "open(0, false)", "drive(2) -> 2");
    five("it MOVES that way: back",
        "4 * next()", "drive(3) -> 82", "copy(0, 8, 1)", "back() -> 4", "drive(3) -> 105", "back() -> 3", "drive(3) -> 122",
        "back() -> 2", "each drive(#) = 0 3 2 139 0 1 3", "stop() -> 143", "stop() => 143", "back() -> 1", "drive(3) -> 166");
    five("GAP is behind it (ahead of it) then",
        "next() -> 1", "drive(1) -> 3", "open(0, true)", "back() -> 5", "drive(1) -> 7");
    five("stop: 4 ticks, if it MOVES",
        "stop() => 0", "next() -> 1", "stop() -> 35", "each drive(#) = 0 3 0 35 0 1 2", "stop() => 35", "open(0, true)",
        "back() -> 5", "drive(2) -> 2", "drive(3) -> 72", "stop() -> 76", "each drive(#) = 0 7 0 76 0 4 7", "stop() => 76");
  }

  private static void ticks() {
    Sentences.sentence("Then a tick for each of its UNITS",
        "longs 0", "store(0, 0, 8, 0)", "open(0, false)", "next() -> 1", "drive(3) -> 30",
        "new", "desk 16 0", "store(0, 0, 64, 0)", "open(0, false)", "next() -> 1", "drive(3) -> 90");
    five("and for each further try twice as many",
        "dust(0, 2, 1)", "next() -> 1", "drive(3) -> 65", "new", "desk 5 1", "store(0, 0, 8, 0)", "open(0, false)",
        "dust(0, 2, 2)", "next() -> 1", "drive(3) -> 99", "new", "desk 5 1", "store(0, 0, 8, 0)", "open(0, true)",
        "dust(0, 7, 2)", "back() -> 5", "drive(3) -> 113");
    five("DUST of what is WOUND over does not matter",
        "dust(0, 0, 9)", "dust(0, 1, 2)", "next() -> 1", "drive(3) -> 31", "ofBlock(0, 0, 5) -> 9", "ofBlock(0, 1, 5) -> 2");
  }

  private static void wear() {
    five("WEAR grows by all UNITS that went by",
        "each ofReel(#, 2) = 0 0 0 0 0 0", "next() -> 1", "ofReel(0, 2) -> 57", "next() -> 2", "ofReel(0, 2) -> 74", "back() -> 2",
        "ofReel(0, 2) -> 74", "stop()", "ofReel(0, 2) -> 74", "open(0, false)", "next() -> 1", "ofReel(0, 2) -> 125",
        "each ofReel(#, 2) = 125 0 0 0 0 0");
    five("with t tries 2 * t - 1 times those of the BLOCK",
        "dust(0, 2, 1)", "next() -> 1", "ofReel(0, 2) -> 91", "dust(0, 3, 2)", "next() -> 2", "ofReel(0, 2) -> 176");
    five("WEAR stays with a break and with what is written",
        "next() -> 1", "snap(0, 1)", "ofReel(0, 2) -> 57", "store(0, 0, 8, 0)", "ofReel(0, 2) -> 57");
  }

  private static void places() {
    five("a PLACE (0 up to SAFE): next, NONE if PLACE is SAFE",
        "4 * next()", "next() -> 5", "drive(5) -> 5", "next() => -1", "next() => -1", "back() -> 5", "drive(5) -> 4",
        "next() -> 5");
    five("a PLACE (0 up to SAFE): back, NONE if PLACE is 0",
        "back() => -1", "next() -> 1", "drive(5) -> 1", "back() -> 1", "drive(5) -> 0", "back() => -1", "back() => -1");
    five("PLACE is SAFE: behind a break",
        "snap(0, 8)", "open(0, false) -> 4", "3 * next()", "next() -> 4", "next() => -1", "open(0, true) -> 4", "next() => -1",
        "back() -> 4", "snap(0, 6)", "open(0, true) -> 0", "next() => -1", "back() => -1");
    five("NONE goes ahead of what cannot be READ",
        "lose(0, 2, 0)", "lose(0, 2, 1)", "back() => -1", "next() -> -9", "dust(0, 7, 9)", "open(0, true)", "next() => -1",
        "back() -> -9", "drive(5) -> 5");
    Sentences.sentence("One FILE may be OPEN; if no FILE is OPEN",
        "next() -> STATE", "back() -> STATE", "desk 2 0", "store(0, 0, 8, 0)", "next() -> STATE", "back() -> STATE",
        "open(0, false) -> 2", "next() -> 1", "open(1, false) -> INDEX", "each drive(#) = 0 3 1 34 0 1 2", "snap(0, 3)",
        "next() -> STATE", "back() -> STATE", "each drive(#) = 0 3 0 34 -1 0 -1");
    five("OPENS a FILE (another one is closed); nothing MOVES by that",
        "store(1, 2, 8, 1)", "next() -> 1", "open(1, true) -> 5", "each drive(#) = 0 3 1 31 1 5 2", "open(1, false) -> 5",
        "each drive(#) = 0 3 1 31 1 0 2", "open(0, true) -> 5", "each drive(#) = 0 3 1 31 0 5 2");
  }

  private static void recordsOfMoreBlocks() {
    // Each RECORD of 24 BYTES has four BLOCKS of 20 UNITS: 2 to 5 and, behind a CHECK LABEL, 7 to 10.
    String[] two = {"desk 2 20", "store(0, 2, 8, 0)", "map(0) -> 'V H D8 D8 D8 D8 C D8 D8 D8 D8 T'", "open(0, false)"};
    Sentences.sentence("READ the DATA BLOCKS in which that RECORD has SEGMENTS, forward by rising, back by falling numbers",
        two[0], two[1], two[2], two[3], "next() -> 1", "each drive(#) = 0 6 1 94 0 1 5", "next() -> 2",
        "each drive(#) = 0 11 1 186 0 2 10", "back() -> 2",
        // 10 is in the BUFFER; GAP 11 to 10 over 20 UNITS: 3 and 3, then 6 and 3 * 20.
        "each drive(#) = 0 7 2 258 0 1 7", "back() -> 1",
        // Over the CHECK LABEL 3 and 3, 6, 4 * 20.
        "each drive(#) = 0 2 2 350 0 0 2", "back() => -1");
    for (int block = 2; block <= 5; block++) {
      Sentences.sentence("if one of them cannot be READ, none is: BLOCK " + block,
          two[0], two[1], two[3], "dust(0, " + block + ", 3)", "next() -> -9", "each drive(#) = 0 0 0 0 0 0 -1",
          "dust(0, " + block + ", 0)", "lose(0, " + block + ", 0)", "lose(0, " + block + ", 1)", "next() -> -9",
          "open(0, true)", "back() -> 2", "back() -> -9");
    }
    Sentences.sentence("if one of them cannot be READ (also one that is in the BUFFER), none is",
        two[0], two[1], two[3], "next() -> 1", "dust(0, 5, 3)", "back() -> -9", "drive(6) -> 5", "dust(0, 5, 2)", "back() -> 1",
        // It was in the BUFFER, so its DUST stays: GAP 6 to 5, 3 and 3, 6, 3 * 20.
        "ofBlock(0, 5, 5) -> 2", "each drive(#) = 0 2 2 166 0 0 2",
        "new", "desk 2 0", "store(0, 0, 8, 0)", "open(0, false)", "next() -> 1", "lose(0, 2, 0)", "next() -> 2", "lose(0, 2, 8)",
        "back() -> -9", "open(0, false)", "next() -> -9", "drive(6) -> 2");
    Sentences.sentence("if one of them cannot be READ: one of another RECORD does not matter",
        two[0], two[1], two[3], "dust(0, 7, 3)", "next() -> 1", "next() -> -9", "back() -> 1", "new",
        "longs 3 3", "store(0, 2, 12, 0)", "open(0, false)", "dust(0, 3, 3)", "next() -> 1", "next() -> -9", "open(0, true)",
        "back() -> -9", "dust(0, 3, 0)", "dust(0, 2, 3)", "back() -> -9");
    Sentences.sentence("the DATA BLOCKS in which that RECORD has BYTES: over two REELS",
        "desk 40 20", "store(0, 2, 8, 2) -> 0", "lose(2, 2, 0)", "open(0, false)", "9 * next()", "drive(0) -> 2",
        // The tenth has its first BLOCK on REEL 2, and three on REEL 0.
        "recordOf(0, 9, 4) -> 36", "recordOf(0, 9, 5) -> 39", "dataOf(0, 36, 0) -> 2", "dataOf(0, 37, 0) -> 0", "drive(1) -> 46",
        // 50, 5 and 3, 6, 36 BLOCKS of 20 UNITS, and over eight CHECK LABELS 6 and 6 each.
        "drive(3) -> 880", "next() -> 10",
        // Over a CHECK LABEL 6, 6 and 20; then 50, 5 and 3, 6 and 3 * 20.
        "each drive(#) = 0 5 1 1036 0 10 4", "back() -> 10",
        // BLOCK 4 is in the BUFFER: over it 6, 6 and 2 * 20; then 50, over all up to BLOCK 47 (V, H, 37 of 20, 9 of 20)
        // 960 UNITS 120 and 3, 6 and 20.
        "each drive(#) = 2 47 2 1287 0 9 47");
  }

  private static void resting() {
    five("storing that is not -9 lets the drive stand, without ticks, and empties the BUFFER",
        "next() -> 1", "each drive(#) = 0 3 1 31 0 1 2", "store(1, 0, 8, 0) -> 1", "each drive(#) = 0 3 0 31 0 1 -1",
        "next() -> 2", "each drive(#) = 0 4 1 54 0 2 3");
    five("a COPY that is not -9 lets the drive stand, without ticks, and empties the BUFFER",
        "next() -> 1", "copy(0, 8, 3) -> 1", "each drive(#) = 0 3 0 31 0 1 -1", "back() -> 1", "each drive(#) = 0 2 2 54 0 0 2",
        "copy(1, 8, 3) -> 2", "each drive(#) = 0 2 0 54 0 0 -1");
    five("with -9 it does not",
        "next() -> 1", "clear()", "store(1, 0, 8, 0) -> -9", "each drive(#) = 0 3 1 31 0 1 2", "dust(0, 7, 3)", "copy(0, 8, 1) -> -9",
        "store(1, 0, 7, 0) -> ARGUMENT", "copy(1, 8, 0) -> INDEX", "each drive(#) = 0 3 1 31 0 1 2");
    five("take, update and sort take no TIME, and let all as it is",
        "next() -> 1", "dust(0, 3, 2)", "take(0) -> 5", "update(0) -> 5", "sort(3, 1) -> 0", "each drive(#) = 0 3 1 31 0 1 2",
        "ofBlock(0, 3, 5) -> 2", "ofReel(0, 2) -> 57", "lose(0, 2, 1)", "dust(0, 2, 1)", "each drive(#) = 0 3 1 31 0 1 2");
  }

  private static void breaks() {
    five("a break lets the drive stand, without ticks, and empties the BUFFER, and closes the OPEN FILE",
        "2 * next()", "each drive(#) = 0 4 1 48 0 2 3", "snap(0, 8) -> 1", "each drive(#) = 0 4 0 48 -1 0 -1");
    five("a break at another REEL closes it, too, and GAP stays",
        "store(1, 0, 8, 1)", "open(0, true)", "back() -> 5", "each drive(#) = 0 7 2 45 0 4 7", "snap(1, 1) -> 8",
        "each drive(#) = 0 7 0 45 -1 0 -1");
    // GAP 4, ahead of BLOCK 4: with BLOCKS 0 to 4 left, 0 to 3, and 0 to 2.
    five("GAP is at most behind the last BLOCK left: one more is left",
        "2 * next()", "snap(0, 5)", "drive(1) -> 4");
    five("GAP is at most behind the last BLOCK left: it stands there", "2 * next()", "snap(0, 4)", "drive(1) -> 4");
    five("GAP is at most behind the last BLOCK left: it stands behind", "2 * next()", "snap(0, 3)", "drive(1) -> 3");
    five("GAP is at most behind the last BLOCK left: the VOLUME LABEL alone", "2 * next()", "snap(0, 1)", "drive(1) -> 1");
    five("GAP is at most behind the last BLOCK left: at first", "snap(0, 1)", "drive(1) -> 0");
    five("GAP is at most behind the last BLOCK left, at the REEL of the DRIVE: what is written there is READ",
        "2 * next()", "snap(0, 3)", "store(1, 0, 8, 0) -> 1", "open(1, false) -> 5",
        // From GAP 3 over a HEADER 3 and 3, 6, 17.
        "next() -> 1", "each drive(#) = 0 5 1 77 1 1 4");
    five("a break at a REEL where the DRIVE was does not matter",
        "store(1, 0, 8, 1)", "2 * next()", "open(1, false)", "next() -> 1", "each drive(#) = 1 3 1 129 1 1 2", "snap(0, 1)",
        "each drive(#) = 1 3 0 129 -1 0 -1", "open(1, false)", "next() -> 1", "each drive(#) = 1 3 1 158 1 1 2");
  }
}
