/** The edges of section 2: REELS, BLOCKS, LABELS, FORMATS, PARTS, FILES, breaks, SAFE. */
final class ReelEdges {
  private ReelEdges() {}

  static void all() {
    reels();
    labels();
    bounds();
    fixed();
    variable();
    spanned();
    checkLabels();
    roomForData();
    nextParts();
    roomForParts();
    files();
    breaks();
    safe();
  }

  private static void reels() {
    Sentences.sentence("REELS 0 to 5",
        "map(0) -> 'V'", "map(5) -> 'V'", "map(-1) -> INDEX", "map(6) -> INDEX", "map(MIN) -> INDEX", "map(MAX) -> INDEX",
        "desk 1 0", "store(0, 0, 8, 0) -> 0", "store(0, 0, 8, 5) -> 1", "store(0, 0, 8, -1) -> INDEX",
        "store(0, 0, 8, 6) -> INDEX", "store(0, 0, 8, MIN) -> INDEX", "store(0, 0, 8, MAX) -> INDEX",
        "count(2) -> 12");
    Sentences.sentence("a BLOCK of n BYTES takes n + 12 UNITS",
        "each ofReel(#, 1) = 20 20 20 20 20 20 INDEX",
        "desk 1 0", "store(0, 0, 64, 0)", "ofReel(0, 1) -> 76",
        "new", "desk 1 1", "store(0, 0, 64, 0)", "ofReel(0, 1) -> 77",
        "new", "desk 16 0", "store(0, 0, 64, 0)", "map(0) -> 'V H D64 T'", "ofReel(0, 1) -> 136",
        // A SEGMENT of one BYTE has 3 BYTES, so its BLOCK has 15 UNITS.
        "new", "desk 1 3", "store(0, 2, 8, 0)", "map(0) -> 'V H D8 D3 T'", "ofReel(0, 1) -> 95");
    Sentences.sentence("BLOCKS are numbered from 0; BLOCK 0 is its VOLUME LABEL",
        "ofBlock(3, 0, 0) -> 0", "ofBlock(3, 1, 0) -> INDEX", "ofBlock(3, -1, 0) -> INDEX",
        "desk 1 0", "store(0, 0, 8, 3)", "each ofBlock(3, #, 0) = 0 1 4 3 INDEX", "ofBlock(3, -1, 0) -> INDEX",
        "ofBlock(3, MAX, 0) -> INDEX", "ofBlock(3, MIN, 0) -> INDEX");
  }

  private static void labels() {
    Sentences.sentence("LABELS have 8 BYTES; VOLUME (the REEL in place of the FILE, then 0s)",
        "each byteAt(0, 0, #) = 200 0 0 0 0 0 0 0 INDEX", "each byteAt(5, 0, #) = 200 5 0 0 0 0 0 0 INDEX",
        "byteAt(5, 0, -1) -> INDEX");
    // 22 BLOCKS of 24 BYTES go on a REEL: 40 + 21 * 36 + 5 * 20 + 36 + 40 = 972, and then 932 + 76 = 1008.
    Sentences.sentence("the number of the FILE, that of its PART, how many DATA BLOCKS stand ahead, how many RECORDS have ended ahead",
        "desk 1 0", "store(9, 0, 8, 5) -> 0", "clear()", "desk 24 20", "store(7, 0, 24, 2) -> 1", "ofFile(1, 5) -> 2",
        "each byteAt(2, 1, #) = 201 1 0 0 0 0 0 0 INDEX",
        "each byteAt(2, 6, #) = 202 1 0 4 4 0 0 0 INDEX",
        "each byteAt(2, 29, #) = 203 1 0 22 22 0 0 0 INDEX",
        "each byteAt(0, 1, #) = 201 1 1 22 22 0 0 0 INDEX",
        "each byteAt(0, 4, #) = 203 1 1 24 24 0 0 0 INDEX");
    Sentences.sentence("how many of its RECORDS have ended ahead: one that is begun has not",
        // 24 BYTES in three BLOCKS with 8 each, so the second RECORD has begun in the fourth.
        "desk 2 20", "store(0, 2, 10, 0)", "map(0) -> 'V H D10 D10 D10 D10 C D10 D10 T'",
        "each byteAt(0, 6, #) = 202 0 0 4 1 0 0 0", "each byteAt(0, 9, #) = 203 0 0 6 2 0 0 0",
        // With 12 BYTES two BLOCKS a RECORD (10 and 10, 4), and the fourth ends the second: 6 left of it begin the third.
        "new", "desk 4 2", "store(0, 2, 8, 0)", "map(0) -> 'V H D8 D8 D8 D8 T'", "new", "desk 5 2", "store(0, 2, 8, 0)",
        "each byteAt(0, 6, #) = 202 0 0 4 4 0 0 0");
    Sentences.sentence("how many (in all PARTS): five of them",
        "desk 40 20", "store(0, 2, 8, 2) -> 0", "ofFile(0, 4) -> 160", "ofFile(0, 5) -> 5",
        "each byteAt(2, 1, #) = 201 0 0 0 0 0 0 0", "each byteAt(0, 1, #) = 201 0 1 37 9 0 0 0",
        "each byteAt(1, 1, #) = 201 0 2 74 18 0 0 0", "each byteAt(3, 1, #) = 201 0 3 111 27 0 0 0",
        "each byteAt(4, 1, #) = 201 0 4 148 37 0 0 0",
        // 12 BLOCKS with two CHECK LABELS between.
        "map(4) -> 'V H D8 D8 D8 D8 C D8 D8 D8 D8 C D8 D8 D8 D8 T'", "each byteAt(4, 16, #) = 203 0 4 160 40 0 0 0");
  }

  private static void bounds() {
    Sentences.sentence("FORMAT 0 to 2",
        "desk 1 0", "store(0, 0, 8, 0) -> 0", "store(0, 1, 8, 0) -> 1", "store(0, 2, 8, 0) -> 2",
        "store(0, -1, 8, 0) -> ARGUMENT", "store(0, 3, 8, 0) -> ARGUMENT",
        "store(0, MIN, 8, 0) -> ARGUMENT", "store(0, MAX, 8, 0) -> ARGUMENT");
    Sentences.sentence("SIZE 8 to 64",
        "desk 1 0", "store(0, 0, 8, 0) -> 0", "store(0, 0, 9, 0) -> 1", "store(0, 0, 63, 0) -> 2", "store(0, 0, 64, 0) -> 3",
        "store(0, 0, 7, 0) -> ARGUMENT", "store(0, 0, 65, 0) -> ARGUMENT",
        "store(0, 0, MIN, 0) -> ARGUMENT", "store(0, 0, MAX, 0) -> ARGUMENT",
        "copy(0, 8, 1) -> 4", "copy(0, 64, 1) -> 5", "copy(0, 7, 1) -> ARGUMENT", "copy(0, 65, 1) -> ARGUMENT",
        "copy(0, MIN, 0) -> ARGUMENT", "copy(0, MAX, 0) -> ARGUMENT");
    Sentences.sentence("a NAME (0 to 9)",
        "desk 1 0", "store(0, 0, 8, 0) -> 0", "store(9, 0, 8, 0) -> 1", "store(-1, 0, 8, 0) -> ARGUMENT",
        "store(10, 0, 8, 0) -> ARGUMENT", "store(MIN, 0, 8, 0) -> ARGUMENT", "store(MAX, 0, 8, 0) -> ARGUMENT",
        "ofFile(0, 0) -> 0", "ofFile(1, 0) -> 9");
    Sentences.sentence("-9 if the DESK is empty",
        "store(0, 0, 8, 0) -> -9", "store(0, 1, 8, 0) -> -9", "store(0, 2, 8, 0) -> -9", "put(0, 0, 0, 0)", "clear()",
        "store(0, 2, 64, 5) -> -9", "count(0) -> 0", "put(0, 0, 0, 0)", "store(0, 0, 8, 0) -> 0");
  }

  private static void fixed() {
    Sentences.sentence("FIXED: all RECORDS must have as many BYTES",
        "longs 3", "store(0, 0, 64, 0) -> 0",
        "new", "longs 3 3 3", "store(0, 0, 64, 0) -> 0",
        "new", "longs 3 3 4", "store(0, 0, 64, 0) -> -9", "store(0, 1, 64, 0) -> 0", "store(0, 2, 64, 0) -> 1",
        "new", "longs 4 3 3", "store(0, 0, 64, 0) -> -9",
        "new", "longs 3 2 3", "store(0, 0, 64, 0) -> -9",
        "new", "longs 0 20", "store(0, 0, 64, 0) -> -9");
    Sentences.sentence("FIXED: as many whole ones as fit into SIZE",
        "desk 5 0", "store(0, 0, 8, 0)", "store(0, 0, 11, 1)", "store(0, 0, 12, 2)", "store(0, 0, 19, 3)", "store(0, 0, 20, 4)",
        "store(0, 0, 21, 5)", "map(0) -> 'V H D8 D8 D4 T'", "map(1) -> 'V H D8 D8 D4 T'", "map(2) -> 'V H D12 D8 T'",
        "map(3) -> 'V H D16 D4 T'", "map(4) -> 'V H D20 T'", "map(5) -> 'V H D20 T'");
    Sentences.sentence("FIXED: a RECORD that does not fit into SIZE does not suit it",
        "desk 2 4", "store(0, 0, 8, 0) -> 0", "store(0, 0, 15, 0) -> 1", "store(0, 0, 16, 0) -> 2",
        "map(0) -> 'V H D8 D8 T H D8 D8 T H D16 T'",
        "new", "desk 2 5", "store(0, 0, 8, 0) -> -9", "store(0, 0, 9, 0) -> 0", "map(0) -> 'V H D9 D9 T'",
        "new", "desk 1 20", "store(0, 0, 23, 0) -> -9", "store(0, 0, 24, 0) -> 0", "store(0, 0, 25, 0) -> 1",
        "map(0) -> 'V H D24 T H D24 T'");
  }

  private static void variable() {
    Sentences.sentence("VARIABLE: ahead of each one BYTE: how many BYTES it has",
        "longs 0 20", "store(0, 1, 64, 0)", "map(0) -> 'V H D30 T'", "byteAt(0, 2, 0) -> 4", "byteAt(0, 2, 1) -> 0",
        "byteAt(0, 2, 5) -> 24", "byteAt(0, 2, 29) -> 195", "byteAt(0, 2, 30) -> INDEX");
    Sentences.sentence("VARIABLE: a RECORD with this must fit into SIZE",
        "longs 3", "store(0, 1, 8, 0) -> 0", "map(0) -> 'V H D8 T'",
        "new", "longs 4", "store(0, 1, 8, 0) -> -9", "store(0, 1, 9, 0) -> 0",
        "new", "longs 20", "store(0, 1, 24, 0) -> -9", "store(0, 1, 25, 0) -> 0", "map(0) -> 'V H D25 T'",
        "new", "longs 0 0 4", "store(0, 1, 8, 0) -> -9", "store(0, 1, 9, 0) -> 0", "map(0) -> 'V H D5 D5 D9 T'",
        "new", "longs 4 0", "store(0, 1, 8, 0) -> -9");
    Sentences.sentence("VARIABLE: what does not fit into the BLOCK any more begins the next one",
        "longs 0 0", "store(0, 1, 9, 0)", "store(0, 1, 10, 0)", "store(0, 1, 11, 0)",
        "map(0) -> 'V H D5 D5 T H D10 T H D10 T'", "recordOf(0, 1, 4) -> 1", "recordOf(1, 1, 4) -> 0",
        // A short one behind a long one does not go back into the BLOCK ahead.
        "new", "longs 4 9 0", "store(0, 1, 14, 0)", "map(0) -> 'V H D9 D14 D5 T'");
  }

  private static void spanned() {
    Sentences.sentence("SPANNED: a BYTE 0 (the whole RECORD), 1 (its beginning), 2 (a middle), 3 (its end), a BYTE how many BYTES come",
        "longs 2", "store(0, 2, 8, 0)", "map(0) -> 'V H D8 T'", "each byteAt(0, 2, #) = 0 6 0 1 0 1 2 39 INDEX",
        "new", "longs 3", "store(0, 2, 8, 0)", "map(0) -> 'V H D8 D3 T'", "each byteAt(0, 2, #) = 1 6 0 1 0 1 2 39 INDEX",
        "each byteAt(0, 3, #) = 3 1 76 INDEX",
        "new", "longs 8", "store(0, 2, 8, 0)", "map(0) -> 'V H D8 D8 T'", "each byteAt(0, 2, #) = 1 6", "each byteAt(0, 3, #) = 3 6",
        "new", "longs 9", "store(0, 2, 8, 0)", "map(0) -> 'V H D8 D8 D3 T'", "each byteAt(0, 2, #) = 1 6",
        "each byteAt(0, 3, #) = 2 6 76 113 150 187 224 5 INDEX", "each byteAt(0, 4, #) = 3 1 42 INDEX");
    Sentences.sentence("SPANNED: with fewer than 3 BYTES left the next one begins: 3 left",
        "longs 3 3", "store(0, 2, 12, 0)", "map(0) -> 'V H D12 D8 T'", "each byteAt(0, 2, #) = 0 7 0 1 0 1 2 39 76 1 1 0 INDEX",
        "each byteAt(0, 3, #) = 3 6 2 0 2 4 41 78 INDEX", "recordOf(0, 1, 4) -> 0", "recordOf(0, 1, 5) -> 1");
    Sentences.sentence("SPANNED: with fewer than 3 BYTES left the next one begins: 2 left",
        "longs 4 4", "store(0, 2, 12, 0)", "map(0) -> 'V H D10 D10 T'", "each byteAt(0, 3, #) = 0 8 0 2",
        "recordOf(0, 1, 4) -> 1", "recordOf(0, 1, 5) -> 1");
    Sentences.sentence("SPANNED: with fewer than 3 BYTES left the next one begins: 1 left, none left",
        "longs 5 5", "store(0, 2, 12, 0)", "map(0) -> 'V H D11 D11 T'", "each byteAt(0, 3, #) = 0 9 0 2",
        "new", "longs 6 6", "store(0, 2, 12, 0)", "map(0) -> 'V H D12 D12 T'", "each byteAt(0, 3, #) = 0 10 0 2");
    Sentences.sentence("SPANNED: a SEGMENT has as many BYTES of what is left of the RECORD as fit",
        // 6 used of 16, 10 left: 8 fit.
        "longs 0 4", "store(0, 2, 16, 0)", "map(0) -> 'V H D16 T'", "each byteAt(0, 2, #) = 0 4 0 1 0 1 0 8",
        "new", "longs 0 5", "store(0, 2, 16, 0)", "map(0) -> 'V H D16 D3 T'", "each byteAt(0, 2, #) = 0 4 0 1 0 1 1 8",
        "each byteAt(0, 3, #) = 3 1 152 INDEX",
        "new", "longs 0 3", "store(0, 2, 16, 0)", "map(0) -> 'V H D15 T'", "each byteAt(0, 2, #) = 0 4 0 1 0 1 0 7");
    Sentences.sentence("SPANNED: RECORDS suit any SIZE, and need not have as many BYTES",
        "longs 20 0 20", "store(0, 2, 8, 0) -> 0", "map(0) -> 'V H D8 D8 D8 D8 C D6 D8 D8 D8 C D8 T'",
        "store(0, 2, 64, 1) -> 1", "map(1) -> 'V H D58 T'");
  }

  private static void checkLabels() {
    Sentences.sentence("behind each fourth one, if it is not the last one, a CHECK LABEL",
        "desk 3 1", "store(0, 0, 8, 0)", "map(0) -> 'V H D5 D5 D5 T'",
        "new", "desk 4 1", "store(0, 0, 8, 0)", "map(0) -> 'V H D5 D5 D5 D5 T'",
        "new", "desk 5 1", "store(0, 0, 8, 0)", "map(0) -> 'V H D5 D5 D5 D5 C D5 T'",
        "new", "desk 8 1", "store(0, 0, 8, 0)", "map(0) -> 'V H D5 D5 D5 D5 C D5 D5 D5 D5 T'",
        "new", "desk 9 1", "store(0, 0, 8, 0)", "map(0) -> 'V H D5 D5 D5 D5 C D5 D5 D5 D5 C D5 T'");
    Sentences.sentence("each fourth one of the FILE (counted over all PARTS)",
        "desk 25 20", "store(0, 0, 24, 0)", "ofFile(0, 5) -> 2", "map(1) -> 'V H D24 D24 C D24 T'",
        "new", "desk 24 20", "store(0, 0, 24, 0)", "map(1) -> 'V H D24 D24 T'");
    Sentences.sentence("each fourth one of the FILE: another FILE is counted anew",
        "desk 3 1", "store(0, 0, 8, 0)", "store(0, 0, 8, 0)", "map(0) -> 'V H D5 D5 D5 T H D5 D5 D5 T'");
  }

  private static void roomForData() {
    // Ahead: 20 and a FILE of 52 and 12. Then 20 + 20 * 36 + 5 * 20, and 36 + 40 more are 1000 for the 21st.
    Sentences.sentence("a DATA BLOCK is written if it, a CHECK LABEL and a TRAILER fit: just so, and no CHECK LABEL comes",
        "longs 8", "store(0, 0, 64, 0)", "ofReel(0, 1) -> 84", "clear()", "desk 21 20", "store(1, 0, 24, 0) -> 1",
        "ofFile(1, 5) -> 1", "ofReel(0, 1) -> 980", "map(1) -> 'V'");
    Sentences.sentence("a DATA BLOCK is written if it, a CHECK LABEL and a TRAILER fit: one UNIT is wanting, and no CHECK LABEL comes",
        "longs 9", "store(0, 0, 64, 0)", "ofReel(0, 1) -> 85", "clear()", "desk 21 20", "store(1, 0, 24, 0) -> 1",
        "ofFile(1, 5) -> 2", "ofReel(0, 1) -> 945", "map(1) -> 'V H D24 T'");
    Sentences.sentence("a DATA BLOCK is written if it, a CHECK LABEL and a TRAILER fit: one UNIT more than needed",
        "longs 7", "store(0, 0, 64, 0)", "ofReel(0, 1) -> 83", "clear()", "desk 21 20", "store(1, 0, 24, 0) -> 1",
        "ofFile(1, 5) -> 1", "ofReel(0, 1) -> 979");
    // Ahead: 20 and two FILES of 52 and 8. Then 20 + 19 * 36 + 4 * 20, and 36 + 40 more are 1000 for the 20th.
    Sentences.sentence("each 1000 UNITS long: the last DATA BLOCK, its CHECK LABEL and the TRAILER fill it",
        "longs 4", "2 * store(0, 0, 64, 0)", "ofReel(0, 1) -> 140", "clear()", "desk 25 20", "store(1, 0, 24, 0) -> 2",
        "ofReel(0, 1) -> 1000", "ofReel(0, 0) -> 34", "each ofBlock(0, #, 0) = 0 1 4 3 1 4 3 1 4 4 4 4 2",
        "ofBlock(0, 31, 0) -> 4", "ofBlock(0, 32, 0) -> 2", "ofBlock(0, 33, 0) -> 3",
        "map(1) -> 'V H D24 D24 D24 D24 C D24 T'");
    Sentences.sentence("each 1000 UNITS long: 1001 are too many",
        "longs 4", "store(0, 0, 64, 0)", "clear()", "longs 5", "store(0, 0, 64, 0)", "ofReel(0, 1) -> 141", "clear()",
        "desk 25 20", "store(1, 0, 24, 0) -> 2", "ofReel(0, 1) -> 945", "ofReel(0, 0) -> 32",
        "map(1) -> 'V H D24 C D24 D24 D24 D24 C D24 T'");
    Sentences.sentence("each 1000 UNITS long: 999",
        "longs 4", "store(0, 0, 64, 0)", "clear()", "longs 3", "store(0, 0, 64, 0)", "ofReel(0, 1) -> 139", "clear()",
        "desk 25 20", "store(1, 0, 24, 0) -> 2", "ofReel(0, 1) -> 999", "map(1) -> 'V H D24 D24 D24 D24 C D24 T'");
  }

  private static void nextParts() {
    Sentences.sentence("otherwise the PART ends with a TRAILER, and the FILE goes on, as the next PART",
        "desk 22 20", "store(0, 0, 24, 0) -> 0", "ofFile(0, 5) -> 1", "map(1) -> 'V'", "ofReel(0, 1) -> 952",
        "new", "desk 23 20", "store(0, 0, 24, 0) -> 0", "ofFile(0, 5) -> 2", "map(1) -> 'V H D24 T'", "ofReel(0, 1) -> 952",
        "ofBlock(0, 29, 0) -> 3", "dataOf(0, 21, 0) -> 0", "dataOf(0, 21, 1) -> 28", "dataOf(0, 22, 0) -> 1",
        "dataOf(0, 22, 1) -> 2");
    Sentences.sentence("a HEADER on the first REEL that has only its VOLUME LABEL",
        "desk 23 20", "store(0, 0, 24, 3)", "dataOf(0, 22, 0) -> 0", "store(0, 0, 24, 4)", "dataOf(1, 22, 0) -> 1",
        "store(0, 0, 24, 5)", "dataOf(2, 22, 0) -> 2", "map(2) -> 'V H D24 T'");
    Sentences.sentence("the first REEL that has only its VOLUME LABEL: after a break, too",
        "desk 23 20", "store(0, 0, 24, 1)", "map(0) -> 'V H D24 T'", "store(0, 0, 24, 2)", "map(3) -> 'V H D24 T'",
        // With its HEADER alone REEL 0 is not meant, but REEL 4.
        "snap(0, 2) -> 2", "store(0, 0, 24, 5)", "map(0) -> 'V H'", "map(4) -> 'V H D24 T'",
        "new", "desk 23 20", "store(0, 0, 24, 1)", "store(0, 0, 24, 2)", "snap(0, 1) -> 3", "store(0, 0, 24, 5)",
        "map(0) -> 'V H D24 T'", "map(4) -> 'V'");
    Sentences.sentence("or if there is no such REEL: -9",
        "desk 23 20", "store(0, 0, 24, 1)", "store(0, 0, 24, 2)", "store(0, 0, 24, 4)", "map(5) -> 'V H D24 T'",
        "each ofReel(#, 0) = 4 30 30 4 30 4", "snap(5, 1)", "store(0, 0, 24, 5) -> -9", "map(5) -> 'V'", "copy(0, 24, 5) -> -9",
        "clear()", "desk 22 20", "store(0, 0, 24, 5) -> 3", "new",
        // The second such FILE would need more than the REEL that is left.
        "desk 40 20", "store(0, 2, 8, 2) -> 0", "each ofReel(#, 1) = 980 980 980 1000 340 20", "store(0, 2, 8, 5) -> -9",
        "store(0, 2, 8, 4) -> -9", "store(0, 2, 8, 3) -> -9", "count(0) -> 1", "store(0, 2, 64, 5) -> -9",
        "each ofReel(#, 0) = 49 49 49 50 17 1");
  }

  private static void roomForParts() {
    // 13 FILES of 52 and 13 behind the 20 are 865; 60, 12 and 63 more are 1000.
    Sentences.sentence("a PART is only begun where a HEADER, a BLOCK of SIZE BYTES, a CHECK LABEL and a TRAILER fit",
        "longs 9", "13 * store(0, 0, 13, 4)", "ofReel(4, 1) -> 865", "store(0, 0, 64, 4) -> -9", "copy(0, 64, 4) -> -9",
        "map(0) -> 'V'", "store(0, 0, 63, 4) -> 13", "ofReel(4, 1) -> 930",
        "new", "longs 9", "13 * store(0, 0, 13, 4)", "copy(0, 63, 4) -> 13",
        "new", "longs 9", "13 * store(0, 0, 13, 4)", "store(0, 0, 62, 4) -> 13",
        // From 930 on there is no room for any SIZE: 930 + 72 + 8 = 1010.
        "store(0, 0, 13, 4) -> -9", "store(0, 2, 8, 4) -> -9");
    Sentences.sentence("a PART is only begun where they fit: the least SIZE",
        // 20 + 12 * 65 + 56 + 64 = 920, and 920 + 72 + 8 = 1000.
        "longs 9", "12 * store(0, 0, 13, 4)", "clear()", "longs 0", "store(0, 0, 8, 4)", "clear()", "longs 8", "store(0, 0, 12, 4)",
        "ofReel(4, 1) -> 920", "store(0, 2, 9, 4) -> -9", "store(0, 2, 8, 4) -> 14", "ofReel(4, 1) -> 980",
        "map(0) -> 'V H D8 T'");
  }

  private static void files() {
    Sentences.sentence("FILES, at most 20, numbered from 0",
        "desk 1 0", "store(0, 0, 8, 0) -> 0", "10 * store(1, 0, 8, 0)", "7 * store(1, 0, 8, 1)", "store(2, 0, 8, 1) -> 18",
        "copy(0, 8, 2) -> 19", "count(0) -> 20", "store(0, 0, 8, 3) -> STATE", "copy(0, 8, 3) -> STATE", "ofFile(19, 0) -> 0",
        "ofFile(20, 0) -> INDEX", "each byteAt(2, 1, #) = 201 19 0",
        // A break does not make room for FILES.
        "snap(0, 1)", "store(0, 0, 8, 3) -> STATE", "copy(19, 8, 3) -> STATE");
    Sentences.sentence("FILES, at most 20: a call that is told -9 makes none",
        "desk 2 20", "20 * put(1, 0, 1, 0)", "store(0, 0, 24, 0) -> -9", "store(0, 1, 24, 0) -> -9", "count(0) -> 0",
        "store(0, 1, 25, 0) -> 0", "lose(0, 2, 0)", "lose(0, 2, 1)", "copy(0, 25, 0) -> -9", "store(0, 1, 25, 0) -> 1");
    Sentences.sentence("GENERATIONS of a NAME: its FILES, the latest one first",
        "find(4, 0) -> -1", "desk 1 0", "store(4, 0, 8, 0) -> 0", "find(4, 0) -> 0", "find(4, 1) -> -1", "ofFile(0, 7) -> 0",
        "store(5, 0, 8, 0) -> 1", "copy(0, 8, 0) -> 2", "find(4, 0) -> 2", "find(4, 1) -> 0", "find(4, 2) -> -1",
        "find(5, 0) -> 1", "find(5, 1) -> -1", "each ofFile(#, 7) = 1 0 0 INDEX",
        // A FILE that is gone is still one of them.
        "snap(0, 1)", "find(4, 0) -> 2", "find(4, 1) -> 0", "store(4, 0, 8, 0) -> 3", "each ofFile(#, 7) = 2 0 1 0 INDEX");
  }

  private static void breaks() {
    Sentences.sentence("a break at a BLOCK (not 0)",
        "snap(0, 0) -> ARGUMENT", "snap(5, 0) -> ARGUMENT", "snap(0, 1) -> INDEX", "desk 1 0", "store(0, 0, 8, 0)",
        "snap(0, 0) -> ARGUMENT", "snap(0, -1) -> INDEX", "snap(0, 4) -> INDEX", "snap(0, 3) -> 1", "snap(0, 3) -> INDEX",
        "snap(0, 1) -> 2", "snap(0, 1) -> INDEX", "snap(0, 0) -> ARGUMENT");
    Sentences.sentence("it and all behind it on that REEL are gone",
        "desk 2 1", "store(0, 0, 8, 0)", "store(0, 0, 8, 0)", "store(0, 0, 8, 1)", "map(0) -> 'V H D5 D5 T H D5 D5 T'",
        "snap(0, 7) -> 2", "map(0) -> 'V H D5 D5 T H D5'", "ofReel(0, 0) -> 7", "ofReel(0, 1) -> 131", "map(1) -> 'V H D5 D5 T'",
        "ofBlock(0, 6, 0) -> 4", "ofBlock(0, 7, 0) -> INDEX", "byteAt(0, 7, 0) -> INDEX", "track(0, 7, 0) -> INDEX",
        "lose(0, 7, 0) -> INDEX", "dust(0, 7, 0) -> INDEX", "snap(0, 7) -> INDEX",
        "each dataOf(0, #, 2) = 1 1 INDEX", "each dataOf(1, #, 2) = 1 0 INDEX", "each dataOf(2, #, 2) = 1 1 INDEX",
        "snap(0, 1) -> 6", "each dataOf(0, #, 2) = 0 0 INDEX", "each dataOf(1, #, 2) = 0 0 INDEX",
        "each dataOf(2, #, 2) = 1 1 INDEX");
    Sentences.sentence("it and all behind it: the last BLOCK alone",
        "desk 2 1", "store(0, 0, 8, 0)", "snap(0, 4) -> 1", "map(0) -> 'V H D5 D5'", "each dataOf(0, #, 2) = 1 1 INDEX",
        "each dataOf(0, #, 3) = 1 1 INDEX");
    Sentences.sentence("what is written later comes there",
        "desk 2 1", "store(0, 0, 8, 0)", "lose(0, 3, 1)", "dust(0, 3, 4)", "snap(0, 3) -> 2", "store(0, 0, 64, 0) -> 1",
        "map(0) -> 'V H D5 H D10 T'", "ofBlock(0, 3, 6) -> 1", "ofBlock(0, 3, 4) -> 0", "ofBlock(0, 3, 5) -> 0",
        "each dataOf(1, #, 1) = 4 INDEX",
        // The FILE of before does not come back by it.
        "each dataOf(0, #, 1) = 2 3 INDEX", "each dataOf(0, #, 2) = 1 0 INDEX", "each dataOf(0, #, 3) = 1 0 INDEX",
        "ofFile(0, 6) -> 0", "take(0) -> -9", "take(1) -> 2");
  }

  private static void safe() {
    Sentences.sentence("SAFE: how many RECORDS the last of its LABELS tells that is THERE",
        "desk 6 1", "store(0, 0, 8, 0)", "map(0) -> 'V H D5 D5 D5 D5 C D5 D5 T'", "ofFile(0, 6) -> 6", "snap(0, 9) -> 1",
        "ofFile(0, 6) -> 4", "snap(0, 8) -> 1", "ofFile(0, 6) -> 4", "snap(0, 7) -> 1", "ofFile(0, 6) -> 4", "snap(0, 6) -> 1",
        "ofFile(0, 6) -> 0", "snap(0, 2) -> 4", "ofFile(0, 6) -> 0", "count(5) -> 0");
    Sentences.sentence("SAFE (0 without)",
        "desk 6 1", "store(0, 0, 8, 0)", "snap(0, 1) -> 9", "ofFile(0, 6) -> 0", "open(0, true) -> 0", "drive(5) -> 0");
    Sentences.sentence("SAFE: with all of the FILE's BLOCKS ahead of it",
        "desk 40 20", "store(0, 2, 8, 2) -> 0", "ofFile(0, 6) -> 40",
        // The last PART is on REEL 4, those ahead on 2, 0, 1 and 3.
        "snap(4, 16) -> 1", "ofFile(0, 6) -> 39", "snap(4, 11) -> 5", "ofFile(0, 6) -> 38", "snap(4, 1) -> 10",
        "ofFile(0, 6) -> 37", "snap(3, 49) -> 1", "ofFile(0, 6) -> 37", "snap(3, 48) -> 1", "ofFile(0, 6) -> 36",
        // PARTS 2 and 3 are THERE still, but not all of PART 1.
        "snap(0, 48) -> 1", "ofFile(0, 6) -> 18", "snap(0, 1) -> 47", "ofFile(0, 6) -> 9", "snap(2, 1) -> 48", "ofFile(0, 6) -> 0",
        "count(5) -> 0");
    Sentences.sentence("SAFE: a RECORD that is begun is not",
        "desk 2 20", "store(0, 2, 10, 0)", "snap(0, 9)", "ofFile(0, 6) -> 1", "open(0, true) -> 1", "next() => -1", "back() -> 1");
    Sentences.sentence("SAFE: lost TRACKS and DUST are not asked",
        "desk 2 1", "store(0, 0, 8, 0)", "lose(0, 2, 0)", "lose(0, 2, 1)", "dust(0, 4, 9)", "lose(0, 4, 0)", "lose(0, 4, 1)",
        "ofFile(0, 6) -> 2");
  }
}
