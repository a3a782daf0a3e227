import java.util.ArrayList;
import java.util.List;

/** The edges of section 4: RUNS, LEVELS, PASSES, SPLIT, SORTING, changes, and the thief. */
final class SortingEdges {
  private SortingEdges() {}

  static void all() {
    runs();
    fullRuns();
    passes();
    split();
    sort();
    update();
    updateKinds();
    updateRefused();
    thief();
  }

  private static void runs() {
    Sentences.sentence("RUNS with memory m (1 to 8)",
        "runs(1) => ''", "runs(8) => ''", "runs(0) -> ARGUMENT", "runs(9) -> ARGUMENT", "runs(MIN) -> ARGUMENT",
        "runs(MAX) -> ARGUMENT", "keys 5", "runs(1) => '1'", "runs(8) => '1'", "runs(0) -> ARGUMENT", "runs(9) -> ARGUMENT");
    Sentences.sentence("the first m RECORDS of the DESK are in memory: fewer, as many, and more of them",
        "keys 3 2", "runs(3) -> '2'", "runs(2) -> '2'", "runs(1) -> '1 1'",
        "new", "keys 3 2 1", "runs(4) -> '3'", "runs(3) -> '3'", "runs(2) -> '2 1'", "runs(1) -> '1 1 1'");
    Sentences.sentence("it may come in this RUN if its KEY is not below that of what went just now",
        "keys 5 5", "runs(1) -> '2'", "new", "keys 5 4", "runs(1) -> '1 1'", "new", "keys 5 6", "runs(1) -> '2'",
        // With 5 gone 5 may come, with it 6, and 4 may not.
        "new", "keys 5 6 5", "runs(2) -> '3'", "new", "keys 5 6 4", "runs(2) -> '2 1'", "new", "keys 0 0 0 999 999", "runs(1) -> '5'");
    Sentences.sentence("what went just now, and not what goes next",
        // 5 goes, so 6 may come, though 9 is in memory; then 5 may not, as 6 went.
        "keys 5 9 6 5", "runs(2) -> '3 1'", "new", "keys 5 9 6 6", "runs(2) -> '4'");
    Sentences.sentence("if none in memory may come, the next RUN begins, in which all may",
        // 5, 6 with 1 and 2 waiting; then 1, 2, 3.
        "keys 5 6 1 2 3", "runs(2) -> '2 3'", "new", "keys 9 1 8 2 7 3", "runs(1) -> '1 2 2 1'", "runs(2) -> '3 3'",
        "runs(3) -> '5 1'", "runs(6) -> '6'");
    Sentences.sentence("the next RECORD of the DESK takes its place; with nothing left the last RUN ends",
        "keys 4 3 2 1", "runs(1) -> '1 1 1 1'", "runs(2) -> '2 2'", "runs(3) -> '3 1'", "runs(4) -> '4'", "runs(8) -> '4'",
        "new", "keys 2 1 4 3", "runs(1) -> '1 2 1'", "runs(2) -> '4'");
  }

  private static void fullRuns() {
    List<String> falling = fill(39, -1);
    falling.addAll(List.of("runs(1) => '" + "1 ".repeat(39) + "1'", "runs(2) -> '" + "2 ".repeat(19) + "2'", "runs(8) -> '8 8 8 8 8'",
        "runs(7) -> '7 7 7 7 7 5'"));
    Sentences.sentence("RUNS of a full DESK, the KEYS falling", falling.toArray(new String[0]));
    List<String> rising = fill(0, 1);
    rising.addAll(List.of("runs(1) -> '40'", "runs(8) => '40'"));
    Sentences.sentence("RUNS of a full DESK, the KEYS rising", rising.toArray(new String[0]));
  }

  /** The DESK full, the KEYS from first on by step. */
  private static List<String> fill(int first, int step) {
    List<String> lines = new ArrayList<>();
    for (int i = 0; i < 40; i++) {
      lines.add("put(" + (first + i * step) + ", 0, " + i + ", 0)");
    }
    return lines;
  }

  private static void passes() {
    Sentences.sentence("over t REELS (3 to 6)",
        "passes(2, 1) -> ARGUMENT", "passes(3, 1) => 0", "passes(6, 1) => 0", "passes(7, 1) -> ARGUMENT",
        "passes(MIN, 1) -> ARGUMENT", "passes(MAX, 1) -> ARGUMENT", "split(2, 1) -> ARGUMENT", "split(3, 1) => '1 0'",
        "split(6, 1) => '1 0 0 0 0'", "split(7, 1) -> ARGUMENT", "split(MIN, 1) -> ARGUMENT", "split(MAX, 1) -> ARGUMENT",
        "sort(2, 1) -> ARGUMENT", "sort(3, 1) -> 0", "sort(6, 1) -> 0", "sort(7, 1) -> ARGUMENT", "sort(MIN, 1) -> ARGUMENT",
        "sort(MAX, 1) -> ARGUMENT", "sort(3, 0) -> ARGUMENT", "sort(3, 8) -> 0", "sort(3, 9) -> ARGUMENT",
        "sort(3, MIN) -> ARGUMENT", "sort(3, MAX) -> ARGUMENT");
    Sentences.sentence("runs: how many, 0 to 60 (of split: 1 to 60)",
        "passes(3, -1) -> ARGUMENT", "passes(3, 0) -> 0", "passes(3, 60) -> 9", "passes(3, 61) -> ARGUMENT",
        "passes(3, MIN) -> ARGUMENT", "passes(3, MAX) -> ARGUMENT", "split(3, -1) -> ARGUMENT", "split(3, 0) -> ARGUMENT",
        "split(3, 1) -> '1 0'", "split(3, 60) -> '30 30'", "split(3, 61) -> ARGUMENT", "split(3, MIN) -> ARGUMENT",
        "split(3, MAX) -> ARGUMENT");
    Sentences.sentence("PASSES: the first LEVEL with n or more of them in all (0 for none)",
        "passes(3, 0) -> 0", "passes(4, 0) -> 0", "passes(5, 0) -> 0", "passes(6, 0) -> 0", "passes(3, 1) -> 0",
        "passes(4, 1) -> 0", "passes(5, 1) -> 0", "passes(6, 1) -> 0");
    // How many RUNS there are on each LEVEL in all.
    int[][] totals = {{1, 2, 3, 5, 8, 13, 21, 34, 55}, {1, 3, 5, 9, 17, 31, 57}, {1, 4, 7, 13, 25, 49}, {1, 5, 9, 17, 33}};
    for (int t = 3; t <= 6; t++) {
      List<String> lines = new ArrayList<>();
      for (int level = 0; level < totals[t - 3].length; level++) {
        lines.add("passes(" + t + ", " + totals[t - 3][level] + ") -> " + level);
        lines.add("passes(" + t + ", " + (totals[t - 3][level] + 1) + ") -> " + (level + 1));
      }
      Sentences.sentence("PASSES: the first LEVEL with n or more: on the edge of each, over " + t, lines.toArray(new String[0]));
    }
  }

  private static void split() {
    Sentences.sentence("The next LEVEL: a1 + a2 on the first, a1 + a3 on the second, .., a1 on the last one",
        "split(3, 2) -> '1 1'", "split(3, 3) -> '2 1'", "split(3, 5) -> '3 2'", "split(3, 55) -> '34 21'",
        "split(4, 3) -> '1 1 1'", "split(4, 5) -> '2 2 1'", "split(4, 9) -> '4 3 2'", "split(4, 17) -> '7 6 4'",
        "split(4, 31) -> '13 11 7'", "split(4, 57) -> '24 20 13'", "split(5, 4) -> '1 1 1 1'", "split(5, 7) -> '2 2 2 1'",
        "split(5, 13) -> '4 4 3 2'", "split(5, 25) -> '8 7 6 4'", "split(5, 49) -> '15 14 12 8'", "split(6, 5) -> '1 1 1 1 1'",
        "split(6, 9) -> '2 2 2 2 1'", "split(6, 17) -> '4 4 4 3 2'", "split(6, 33) -> '8 8 7 6 4'");
    Sentences.sentence("each takes the place of a RUN on the REEL that has the most left (of several the first)",
        // Of 3 2, 5 3, 13 8.
        "split(3, 4) -> '2 2'", "split(3, 7) -> '4 3'", "split(3, 6) -> '3 3'", "split(3, 14) -> '7 7'",
        // Of 1 1 1 and 2 2 1 and 4 3 2.
        "split(4, 2) -> '0 1 1'", "split(4, 4) -> '1 2 1'", "split(4, 8) -> '3 3 2'", "split(4, 7) -> '2 3 2'",
        "split(4, 6) -> '2 2 2'",
        // Of 1 1 1 1 1, 2 2 2 2 1, 4 4 4 3 2.
        "split(6, 4) -> '0 1 1 1 1'", "split(6, 3) -> '0 0 1 1 1'", "split(6, 2) -> '0 0 0 1 1'", "split(6, 6) -> '1 1 1 2 1'",
        "split(6, 16) -> '3 4 4 3 2'", "split(6, 10) -> '2 2 2 2 2'");
  }

  private static void sort() {
    Sentences.sentence("the DESK is the RECORDS by KEY, like ones as they came",
        "keys 5 3 5 3 999 0 5", "sort(3, 1) -> 3", "each deskAt(#, 0) = 0 3 3 5 5 5 999 INDEX",
        "each deskAt(#, 2) = 5 1 3 0 2 6 4 INDEX", "sort(3, 1) => 0");
    Sentences.sentence("RECORDS by KEY: none, one",
        "sort(3, 1) => 0", "put(7, 2, 9, 4)", "sort(6, 8) => 0", "each deskAt(0, #) = 7 2 9 4 ARGUMENT");
    List<String> falling = fill(39, -1);
    falling.addAll(List.of("sort(3, 9) -> ARGUMENT", "sort(2, 1) -> ARGUMENT", "sort(3, 1) -> 8", "deskAt(0, 0) -> 0",
        "deskAt(39, 0) -> 39", "deskAt(39, 2) -> 0", "sort(3, 1) => 0"));
    Sentences.sentence("SORTS a full DESK: 40 RUNS are 8 PASSES over three REELS", falling.toArray(new String[0]));
    List<String> again = fill(39, -1);
    again.addAll(List.of("sort(6, 8) -> 1", "deskAt(0, 0) -> 0"));
    Sentences.sentence("SORTS a full DESK: 5 RUNS are 1 of six", again.toArray(new String[0]));
    List<String> seven = fill(39, -1);
    seven.addAll(List.of("sort(6, 7) -> 2", "deskAt(0, 0) -> 0"));
    Sentences.sentence("SORTS a full DESK: 6 RUNS are 2 of six", seven.toArray(new String[0]));
  }

  private static void update() {
    Sentences.sentence("or the DESK would have more than 40",
        "desk 39 0", "store(0, 0, 64, 0)", "clear()", "keys 50", "update(0) -> 0", "count(1) -> 40", "deskAt(39, 0) -> 50",
        "clear()", "keys 50 51", "update(0) -> -9", "count(1) -> 2", "each deskAt(#, 0) = 50 51 INDEX");
    Sentences.sentence("would have more than 40: as it is in the end",
        "desk 40 0", "store(0, 0, 64, 0)", "update(0) -> 40", "clear()", "keys 0", "update(0) -> -9", "put(40, 2, 0, 0)",
        "update(0) -> 0", "count(1) -> 40", "deskAt(0, 0) -> 0", "deskAt(39, 0) -> 39", "clear()", "put(40, 1, 77, 0)",
        "update(0) -> 0", "deskAt(39, 2) -> 77", "clear()", "put(40, 0, 77, 0)", "update(0) -> 1", "count(1) -> 40",
        "deskAt(39, 2) -> 40");
    List<String> many = fill(100, 1);
    many.addAll(List.of("store(0, 0, 64, 0)", "clear()"));
    many.addAll(fill(0, 1));
    many.addAll(List.of("update(0) -> -9", "count(1) -> 40", "refusals() -> ''"));
    Sentences.sentence("more than 40: 80", many.toArray(new String[0]));
    List<String> none = fill(100, 1);
    none.addAll(List.of("store(0, 1, 64, 0)", "clear()"));
    for (int key = 0; key < 20; key++) {
      none.add("put(" + key + ", 2, 0, 0)");
      none.add("put(" + (key + 200) + ", 1, 0, 0)");
    }
    none.addAll(List.of("update(0) -> 40", "count(1) -> 40", "deskAt(39, 0) -> 139", "refusals() -> '0 1 2 3 4 5 6 7 8 9 10 11 12 13 "
        + "14 15 16 17 18 19 200 201 202 203 204 205 206 207 208 209 210 211 212 213 214 215 216 217 218 219'"));
    Sentences.sentence("more than 40: not if of 80 KEYS 40 are REFUSED", none.toArray(new String[0]));
    Sentences.sentence("-9 leaves the REFUSALS of the last update",
        "keys 5 5", "store(0, 0, 64, 0)", "update(0) -> 2", "refusals() -> '5 5'", "dust(0, 2, 3)", "update(0) -> -9",
        "refusals() -> '5 5'", "update(1) -> INDEX", "update(-1) -> INDEX", "refusals() -> '5 5'", "dust(0, 2, 0)", "clear()",
        "refusals() -> '5 5'", "update(0) -> 0", "refusals() => ''");
    Sentences.sentence("all must be SAFE and can be READ; this takes no TIME",
        "desk 2 1", "store(0, 0, 8, 0)", "clear()", "dust(0, 2, 2)", "update(0) -> 0", "ofBlock(0, 2, 5) -> 2",
        "each drive(#) = 0 0 0 0 -1 0 -1", "ofReel(0, 2) -> 0", "snap(0, 4)", "each dataOf(0, #, 3) = 1 1", "update(0) -> -9",
        "take(0) -> -9", "copy(0, 8, 0) -> -9");
    Sentences.sentence("take: in place of what is there",
        "keys 7 8", "store(0, 1, 8, 0)", "desk 38 0", "take(0) -> 2", "each deskAt(#, 0) = 7 8 INDEX", "take(1) -> INDEX",
        "take(-1) -> INDEX", "take(MAX) -> INDEX", "take(MIN) -> INDEX", "desk 38 0", "count(1) -> 40", "store(0, 1, 64, 1)",
        "clear() -> 40", "take(1) -> 40", "deskAt(39, 0) -> 38", "clear() -> 40", "clear() => 0");
  }

  private static void updateKinds() {
    String[] file = {"put(5, 2, 50, 1)", "put(9, 1, 90, 1)", "store(0, 0, 8, 0)", "clear()"};
    Sentences.sentence("by the DESK: nothing on it",
        file[0], file[1], file[2], file[3], "update(0) -> 0", "each deskAt(#, 0) = 5 9 INDEX", "each deskAt(0, #) = 5 0 50 1",
        "each deskAt(1, #) = 9 0 90 1");
    Sentences.sentence("KIND 0: it is there from now on, but REFUSED if one is",
        file[0], file[1], file[2], file[3], "put(7, 0, 1, 2)", "put(5, 0, 2, 2)", "put(7, 0, 3, 2)", "update(0) -> 2",
        "refusals() -> '5 7'", "each deskAt(#, 0) = 5 7 9 INDEX", "each deskAt(#, 2) = 50 1 90");
    Sentences.sentence("KIND 1: it takes the place of the one that is there, REFUSED if none is",
        file[0], file[1], file[2], file[3], "put(9, 1, 1, 3)", "put(4, 1, 2, 2)", "put(9, 1, 3, 4)", "update(0) -> 1",
        "refusals() -> '4'", "each deskAt(#, 0) = 5 9 INDEX", "each deskAt(1, #) = 9 0 3 4");
    Sentences.sentence("KIND 2: what is there goes, REFUSED if none is",
        file[0], file[1], file[2], file[3], "put(9, 2, 1, 3)", "put(4, 2, 2, 2)", "put(9, 2, 3, 4)", "update(0) -> 2",
        "refusals() -> '4 9'", "each deskAt(#, 0) = 5 INDEX");
    Sentences.sentence("KIND 2: all go",
        file[0], file[1], file[2], file[3], "put(9, 2, 1, 3)", "put(5, 2, 2, 2)", "update(0) -> 0", "count(1) -> 0",
        "deskAt(0, 0) -> INDEX", "update(0) -> 0", "count(1) -> 2");
    Sentences.sentence("for a KEY first that of the FILE, then those of the DESK one after the other",
        file[0], file[1], file[2], file[3], "put(5, 2, 0, 0)", "put(5, 1, 1, 0)", "put(5, 0, 2, 0)", "put(5, 1, 3, 0)",
        "put(6, 0, 4, 0)", "put(6, 2, 5, 0)", "put(6, 0, 6, 0)", "update(0) -> 1", "refusals() -> '5'",
        "each deskAt(#, 0) = 5 6 9 INDEX", "each deskAt(#, 2) = 3 6 90",
        // The other way about.
        "clear()", "put(5, 0, 1, 0)", "put(5, 1, 2, 0)", "put(5, 2, 3, 0)", "put(5, 2, 4, 0)", "update(0) -> 2", "refusals() -> '5 5'",
        "each deskAt(#, 0) = 9 INDEX");
    Sentences.sentence("each with KIND 0",
        file[0], file[1], file[2], file[3], "put(9, 1, 1, 3)", "put(0, 0, 0, 0)", "put(999, 0, 0, 0)", "update(0) -> 0",
        "each deskAt(#, 0) = 0 5 9 999 INDEX", "each deskAt(#, 1) = 0 0 0 0 INDEX");
    Sentences.sentence("(Of a FILE each KEY counts but once, by its last RECORD, whatever its KIND.)",
        "put(5, 0, 1, 1)", "put(9, 0, 2, 1)", "put(5, 2, 3, 1)", "put(9, 2, 4, 1)", "put(9, 1, 5, 1)", "store(0, 0, 64, 0)", "clear()",
        "put(5, 0, 7, 0)", "update(0) -> 1", "each deskAt(#, 0) = 5 9 INDEX", "each deskAt(#, 2) = 3 5 INDEX",
        "each recordOf(0, #, 1) = 0 0 2 2 1 INDEX",
        "new", "keys 5 5", "store(0, 0, 8, 0)", "clear()", "update(0) -> 0", "each deskAt(0, #) = 5 0 1 0", "count(1) -> 1",
        "new", "keys 999 0 999 0", "store(0, 0, 8, 0)", "clear()", "update(0) -> 0", "each deskAt(#, 2) = 3 2 INDEX");
  }

  private static void updateRefused() {
    Sentences.sentence("REFUSALS are told by KEYS: those of the least and of the most KEY",
        "put(1, 0, 0, 0)", "store(0, 0, 8, 0)", "clear()", "put(999, 2, 0, 0)", "put(998, 1, 0, 0)", "put(1, 0, 0, 0)",
        "put(0, 2, 0, 0)", "put(999, 1, 0, 0)", "put(998, 0, 0, 0)", "update(0) -> 5", "refusals() => '0 1 998 999 999'",
        "each deskAt(#, 0) = 1 998 INDEX");
    List<String> all = new ArrayList<>(List.of("put(1, 0, 0, 0)", "store(0, 0, 8, 0)", "clear()", "40 * put(1, 0, 5, 0)"));
    all.addAll(List.of("update(0) -> 40", "refusals() => '" + "1 ".repeat(39) + "1'", "each deskAt(0, #) = 1 0 0 0"));
    Sentences.sentence("how many REFUSALS there were: all 40", all.toArray(new String[0]));
    Sentences.sentence("refusals: \"\" without",
        "refusals() => ''", "put(1, 0, 0, 0)", "store(0, 0, 8, 0)", "clear()", "update(0) -> 0", "refusals() => ''");
  }

  private static void thief() {
    Sentences.sentence("who knocks is REFUSED entry",
        "count(6) => 0", "knock() -> 1", "count(6) => 1", "put(1, 0, 0, 0)", "store(0, 0, 8, 0)", "update(0) -> 1", "count(6) -> 1",
        "knock() -> 2", "knock() -> 3", "count(6) -> 3", "refusals() -> '1'", "snap(0, 1)", "clear()", "count(6) -> 3",
        "each drive(#) = 0 0 0 0 -1 0 -1");
  }
}
