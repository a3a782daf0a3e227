/** The edges of section 1: RECORDS, BYTES, TRACKS, CHECK and ACROSS. */
final class RecordEdges {
  private RecordEdges() {}

  static void all() {
    bounds();
    bytes();
    tracks();
    checks();
  }

  private static void bounds() {
    Sentences.sentence("a KEY (0 to 999)",
        "put(0, 0, 0, 0) -> 1", "put(1, 0, 0, 0) -> 2", "put(998, 0, 0, 0) -> 3", "put(999, 0, 0, 0) -> 4",
        "put(-1, 0, 0, 0) -> ARGUMENT", "put(1000, 0, 0, 0) -> ARGUMENT",
        "put(MIN, 0, 0, 0) -> ARGUMENT", "put(MAX, 0, 0, 0) -> ARGUMENT",
        "each deskAt(#, 0) = 0 1 998 999 INDEX");
    Sentences.sentence("a KIND (0 new, 1 other, 2 gone)",
        "put(5, 0, 0, 0) -> 1", "put(5, 1, 0, 0) -> 2", "put(5, 2, 0, 0) -> 3",
        "put(5, -1, 0, 0) -> ARGUMENT", "put(5, 3, 0, 0) -> ARGUMENT",
        "put(5, MIN, 0, 0) -> ARGUMENT", "put(5, MAX, 0, 0) -> ARGUMENT",
        "each deskAt(#, 1) = 0 1 2 INDEX");
    Sentences.sentence("a SEED (0 to 255)",
        "put(5, 0, 0, 0) -> 1", "put(5, 0, 1, 0) -> 2", "put(5, 0, 254, 0) -> 3", "put(5, 0, 255, 0) -> 4",
        "put(5, 0, -1, 0) -> ARGUMENT", "put(5, 0, 256, 0) -> ARGUMENT",
        "put(5, 0, MIN, 0) -> ARGUMENT", "put(5, 0, MAX, 0) -> ARGUMENT",
        "each deskAt(#, 2) = 0 1 254 255 INDEX");
    Sentences.sentence("LONG (0 to 20)",
        "put(5, 0, 0, 0) -> 1", "put(5, 0, 0, 1) -> 2", "put(5, 0, 0, 19) -> 3", "put(5, 0, 0, 20) -> 4",
        "put(5, 0, 0, -1) -> ARGUMENT", "put(5, 0, 0, 21) -> ARGUMENT",
        "put(5, 0, 0, MIN) -> ARGUMENT", "put(5, 0, 0, MAX) -> ARGUMENT",
        "each deskAt(#, 3) = 0 1 19 20 INDEX");
    Sentences.sentence("The DESK is a row of at most 40 RECORDS",
        "desk 38 0", "put(7, 1, 2, 3) -> 39", "put(8, 2, 1, 0) -> 40",
        "put(9, 0, 0, 0) -> STATE", "count(1) -> 40", "deskAt(39, 0) -> 8", "deskAt(40, 0) -> INDEX",
        "clear() -> 40", "put(9, 0, 0, 0) -> 1");
    Sentences.sentence("If several exceptions apply, the one that is named first is thrown: put",
        "desk 40 0", "put(1000, 0, 0, 0) -> ARGUMENT", "put(0, 3, 0, 0) -> ARGUMENT",
        "put(0, 0, 256, 0) -> ARGUMENT", "put(0, 0, 0, 21) -> ARGUMENT", "put(0, 0, 0, 0) -> STATE");
  }

  private static void bytes() {
    Sentences.sentence("KEY / 256, KEY modulo 256; what is divided is rounded down",
        "keys 0 255 256 511 512 767 768 999", "store(0, 0, 64, 0) -> 0",
        "each byteAt(0, 2, #) = 0 0 0 0 0 255 0 1 1 0 0 2 1 255 0 3 2 0 0 4 2 255 0 5 3 0 0 6 3 231 0 7 INDEX");
    Sentences.sentence("its BYTES: KIND, SEED",
        "put(0, 0, 255, 0)", "put(0, 1, 0, 0)", "put(0, 2, 128, 0)", "store(0, 0, 64, 0) -> 0",
        "each byteAt(0, 2, #) = 0 0 0 255 0 0 1 0 0 0 2 128 INDEX");
    Sentences.sentence("for j from 0 to LONG - 1: none",
        "longs 0", "store(0, 0, 64, 0) -> 0", "ofBlock(0, 2, 1) -> 4", "byteAt(0, 2, 3) -> 1", "byteAt(0, 2, 4) -> INDEX");
    Sentences.sentence("for j from 0 to LONG - 1: one",
        "longs 1", "store(0, 0, 64, 0) -> 0", "ofBlock(0, 2, 1) -> 5", "byteAt(0, 2, 4) -> 2", "byteAt(0, 2, 5) -> INDEX");
    Sentences.sentence("for j from 0 to LONG - 1: twenty",
        "longs 20", "store(0, 0, 64, 0) -> 0", "ofBlock(0, 2, 1) -> 24",
        // 2, 39, 76, .. up to 2 + 37 * 19 = 705, which is 193 and twice 256.
        "each byteAt(0, 2, #) = 0 1 0 1 2 39 76 113 150 187 224 5 42 79 116 153 190 227 8 45 82 119 156 193 INDEX");
    Sentences.sentence("(SEED + 37 * j + KEY) modulo 256",
        "put(255, 0, 0, 1)", "put(255, 0, 1, 1)", "put(256, 0, 0, 1)", "put(0, 0, 255, 1)", "put(999, 0, 255, 1)",
        "store(0, 0, 64, 0) -> 0",
        "byteAt(0, 2, 4) -> 255", "byteAt(0, 2, 9) -> 0", "byteAt(0, 2, 14) -> 0", "byteAt(0, 2, 19) -> 255",
        // 999 + 255 = 1254 = 4 * 256 + 230.
        "byteAt(0, 2, 24) -> 230",
        // 230, 267, 304 with 6 * 37 = 222 of 452: around at j = 1 and j = 8.
        "new", "put(999, 0, 255, 20)", "store(0, 0, 64, 0) -> 0",
        "each byteAt(0, 2, #) = 3 231 0 255 230 11 48 85 122 159 196 233 14 51 88 125 162 199 236 17 54 91 128 165 INDEX");
  }

  private static void tracks() {
    Sentences.sentence("TRACK 0 to 7 for 1, 2, 4, .. 128",
        "put(1, 0, 128, 0)", "store(0, 0, 8, 0)", "track(0, 2, 0) -> '0100'", "track(0, 2, 1) -> '0000'",
        "track(0, 2, 6) -> '0000'", "track(0, 2, 7) -> '0001'",
        "new", "put(2, 0, 64, 0)", "store(0, 0, 8, 0)", "track(0, 2, 0) -> '0000'", "track(0, 2, 1) -> '0100'",
        "track(0, 2, 2) -> '0000'", "track(0, 2, 6) -> '0001'", "track(0, 2, 7) -> '0000'",
        "new", "put(254, 0, 127, 0)", "store(0, 0, 8, 0)", "track(0, 2, 0) -> '0001'", "track(0, 2, 1) -> '0101'",
        "track(0, 2, 6) -> '0101'", "track(0, 2, 7) -> '0100'");
    // None and eight ones are even, so TRACK 8 has one; one and seven are odd.
    Sentences.sentence("TRACK 8 so that an odd number of the nine is 1",
        "put(255, 1, 127, 0)", "put(3, 2, 254, 0)", "store(0, 0, 8, 0)", "track(0, 2, 8) -> '11001100'");
    Sentences.sentence("BYTES stand on nine TRACKS",
        "put(1, 0, 0, 0)", "store(0, 0, 8, 0)", "track(0, 2, 8) -> '1011'", "track(0, 2, 9) -> ARGUMENT",
        "track(0, 2, -1) -> ARGUMENT", "track(0, 2, MAX) -> ARGUMENT", "track(0, 2, MIN) -> ARGUMENT");
  }

  private static void checks() {
    Sentences.sentence("CHECK: 0 at first; each bit changes that is 1 in the BYTE",
        "keys 0", "store(0, 0, 8, 0)", "ofBlock(0, 2, 2) -> 0",
        "new", "put(0, 0, 255, 0)", "store(0, 0, 8, 0)", "ofBlock(0, 2, 2) -> 255",
        // 0, 1, 2, 4 with the bit 4 changed.
        "new", "put(1, 0, 4, 0)", "store(0, 0, 8, 0)", "ofBlock(0, 2, 2) -> 0");
    // The last three BYTES: 127, 254 (twice 127), 253 (508 - 256 and 1 more).
    Sentences.sentence("CHECK: twice as much (modulo 256, and 1 more, if it was 128 or more)",
        "keys 127", "store(0, 0, 8, 0)", "ofBlock(0, 2, 2) -> 253",
        "new", "keys 128", "store(0, 0, 8, 0)", "ofBlock(0, 2, 2) -> 2",
        "new", "keys 64", "store(0, 0, 8, 0)", "ofBlock(0, 2, 2) -> 1",
        "new", "keys 255", "store(0, 0, 8, 0)", "ofBlock(0, 2, 2) -> 255",
        "new", "keys 256", "store(0, 0, 8, 0)", "ofBlock(0, 2, 2) -> 8");
    Sentences.sentence("ACROSS: bit by bit 1, if an odd number of its BYTES have it",
        "keys 0", "store(0, 0, 8, 0)", "ofBlock(0, 2, 3) -> 0",
        "new", "put(255, 0, 0, 0)", "store(0, 0, 8, 0)", "ofBlock(0, 2, 3) -> 255",
        "new", "put(5, 0, 5, 0)", "store(0, 0, 8, 0)", "ofBlock(0, 2, 3) -> 0",
        "new", "put(257, 1, 0, 0)", "store(0, 0, 8, 0)", "ofBlock(0, 2, 3) -> 1",
        "new", "put(257, 1, 1, 0)", "store(0, 0, 8, 0)", "ofBlock(0, 2, 3) -> 0",
        "new", "put(128, 2, 64, 0)", "store(0, 0, 8, 0)", "ofBlock(0, 2, 3) -> 194");
  }
}
