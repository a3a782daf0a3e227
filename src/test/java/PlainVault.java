import java.util.ArrayList;
import java.util.Comparator;
import java.util.List;
import java.util.PriorityQueue;
import java.util.TreeMap;
import java.util.TreeSet;

/** The vault told a second time, as plainly as the Java library lets it, to be set against Longtapevault call by call. */
final class PlainVault {
  private record Rec(int key, int kind, int seed, int length) {
    List<Integer> bytes() {
      List<Integer> bytes = new ArrayList<>(List.of(key / 256, key % 256, kind, seed));
      for (int j = 0; j < length; j++) {
        bytes.add((seed + 37 * j + key) % 256);
      }
      return bytes;
    }

    int ask(int what) {
      return List.of(key, kind, seed, length).get(what);
    }
  }

  private static final class Blk {
    int sort;
    int file;
    int reel;
    int place;
    List<Integer> bytes;
    TreeSet<Integer> lost = new TreeSet<>();
    int dust;
    boolean gone;

    Blk(int sort, int file, List<Integer> bytes) {
      this.sort = sort;
      this.file = file;
      this.bytes = bytes;
    }

    int units() {
      return bytes.size() + 12;
    }

    boolean readable() {
      return !gone && lost.size() < 2 && dust < 3;
    }
  }

  private static final class Fil {
    int number;
    int name;
    int format;
    int size;
    List<Rec> records;
    List<Blk> all = new ArrayList<>();
    List<Blk> data = new ArrayList<>();
    int[] first;
    int[] last;
    int parts;

    int safe() {
      int safe = 0;
      for (Blk b : all) {
        if (b.gone) {
          break;
        }
        safe = b.sort < 4 ? b.bytes.get(4) : safe;
      }
      return safe;
    }

    boolean whole() {
      return safe() == records.size() && data.stream().allMatch(Blk::readable);
    }
  }

  private List<Rec> desk = new ArrayList<>();
  private final List<List<Blk>> reels = new ArrayList<>();
  private final int[] wear = new int[6];
  private final List<Fil> files = new ArrayList<>();
  private List<Integer> refused = new ArrayList<>();
  private int knocks;
  private int at;
  private int gap;
  private int way;
  private int time;
  private Blk buffer;
  private Fil opened;
  private int place;

  PlainVault() {
    for (int r = 0; r < 6; r++) {
      Blk label = new Blk(0, -1, List.of(200, r, 0, 0, 0, 0, 0, 0));
      label.reel = r;
      reels.add(new ArrayList<>(List.of(label)));
    }
  }

  private static void index(boolean ok) {
    if (!ok) {
      throw new IndexOutOfBoundsException();
    }
  }

  private static void argument(boolean ok) {
    if (!ok) {
      throw new IllegalArgumentException();
    }
  }

  private static void state(boolean ok) {
    if (!ok) {
      throw new IllegalStateException();
    }
  }

  private static boolean in(int x, int from, int to) {
    return from <= x && x <= to;
  }

  private Fil file(int f) {
    index(in(f, 0, files.size() - 1));
    return files.get(f);
  }

  private Blk block(int r, int b) {
    index(in(r, 0, 5) && in(b, 0, reels.get(r).size() - 1));
    return reels.get(r).get(b);
  }

  int put(int key, int kind, int seed, int length) {
    argument(in(key, 0, 999) && in(kind, 0, 2) && in(seed, 0, 255) && in(length, 0, 20));
    state(desk.size() < 40);
    desk.add(new Rec(key, kind, seed, length));
    return desk.size();
  }

  int clear() {
    int n = desk.size();
    desk = new ArrayList<>();
    return n;
  }

  int take(int f) {
    Fil file = file(f);
    if (!file.whole()) {
      return -9;
    }
    desk = new ArrayList<>(file.records);
    return desk.size();
  }

  private static List<Rec> sorted(List<Rec> records) {
    List<Rec> by = new ArrayList<>(records);
    by.sort(Comparator.comparingInt(Rec::key));
    return by;
  }

  int sort(int t, int m) {
    argument(in(t, 3, 6) && in(m, 1, 8));
    int n = runLengths(m).size();
    desk = sorted(desk);
    return passes(t, n);
  }

  int update(int f) {
    Fil file = file(f);
    if (!file.whole()) {
      return -9;
    }
    TreeMap<Integer, Rec> there = new TreeMap<>();
    for (Rec r : file.records) {
      there.put(r.key, r);
    }
    List<Integer> no = new ArrayList<>();
    for (Rec r : sorted(desk)) {
      boolean is = there.containsKey(r.key);
      if (r.kind == 0 ? is : !is) {
        no.add(r.key);
      } else if (r.kind == 2) {
        there.remove(r.key);
      } else {
        there.put(r.key, r);
      }
    }
    if (there.size() > 40) {
      return -9;
    }
    desk = new ArrayList<>();
    for (Rec r : there.values()) {
      desk.add(new Rec(r.key, 0, r.seed, r.length));
    }
    refused = no;
    return no.size();
  }

  int store(int name, int format, int size, int reel) {
    index(in(reel, 0, 5));
    argument(in(name, 0, 9) && in(format, 0, 2) && in(size, 8, 64));
    state(files.size() < 20);
    return keep(desk, name, format, size, reel);
  }

  int copy(int f, int size, int reel) {
    index(in(f, 0, files.size() - 1) && in(reel, 0, 5));
    argument(in(size, 8, 64));
    state(files.size() < 20);
    Fil file = files.get(f);
    return file.whole() ? keep(file.records, file.name, file.format, size, reel) : -9;
  }

  private int keep(List<Rec> records, int name, int format, int size, int reel) {
    Fil file = new Fil();
    file.number = files.size();
    file.name = name;
    file.format = format;
    file.size = size;
    file.records = List.copyOf(records);
    file.first = new int[records.size()];
    file.last = new int[records.size()];
    List<Integer> ended = new ArrayList<>();
    List<List<Integer>> blocks = format == 2 ? spanned(file, ended) : plain(file, ended);
    if (blocks == null) {
      return -9;
    }
    // Written for good onto other rows, so that a want of room leaves the true ones alone.
    List<List<Blk>> draft = new ArrayList<>();
    for (List<Blk> r : reels) {
      draft.add(new ArrayList<>(r));
    }
    if (!write(file, blocks, ended, draft, reel)) {
      return -9;
    }
    for (int r = 0; r < 6; r++) {
      reels.set(r, draft.get(r));
    }
    files.add(file);
    way = 0;
    buffer = null;
    return file.number;
  }

  private static List<List<Integer>> plain(Fil file, List<Integer> ended) {
    List<List<Integer>> blocks = new ArrayList<>();
    List<Integer> now = new ArrayList<>();
    for (int r = 0; r < file.records.size(); r++) {
      List<Integer> bytes = file.records.get(r).bytes();
      if (file.format == 0 && bytes.size() != file.records.get(0).bytes().size()) {
        return null;
      }
      if (file.format == 1) {
        bytes.add(0, bytes.size());
      }
      if (bytes.size() > file.size) {
        return null;
      }
      if (now.size() + bytes.size() > file.size) {
        blocks.add(now);
        ended.add(r);
        now = new ArrayList<>();
      }
      now.addAll(bytes);
      file.first[r] = blocks.size();
      file.last[r] = blocks.size();
    }
    if (now.isEmpty()) {
      return null;
    }
    blocks.add(now);
    ended.add(file.records.size());
    return blocks;
  }

  private static List<List<Integer>> spanned(Fil file, List<Integer> ended) {
    List<List<Integer>> blocks = new ArrayList<>();
    List<Integer> now = new ArrayList<>();
    for (int r = 0; r < file.records.size(); r++) {
      List<Integer> left = file.records.get(r).bytes();
      file.first[r] = -1;
      do {
        if (now.size() > file.size - 3) {
          blocks.add(now);
          ended.add(r);
          now = new ArrayList<>();
        }
        int fit = file.size - now.size() - 2;
        boolean ends = left.size() <= fit;
        List<Integer> segment = ends ? left : left.subList(0, fit);
        boolean begins = file.first[r] < 0;
        now.add(begins && ends ? 0 : begins ? 1 : ends ? 3 : 2);
        now.add(segment.size());
        now.addAll(segment);
        file.first[r] = begins ? blocks.size() : file.first[r];
        file.last[r] = blocks.size();
        left = ends ? List.of() : left.subList(fit, left.size());
      } while (!left.isEmpty());
    }
    if (now.isEmpty()) {
      return null;
    }
    blocks.add(now);
    ended.add(file.records.size());
    return blocks;
  }

  private static int used(List<Blk> reel) {
    return reel.stream().mapToInt(Blk::units).sum();
  }

  private static void append(Fil file, List<List<Blk>> draft, int reel, Blk b) {
    b.reel = reel;
    b.place = draft.get(reel).size();
    draft.get(reel).add(b);
    file.all.add(b);
    if (b.sort == 4) {
      file.data.add(b);
    }
  }

  private static Blk label(int sort, Fil file, int part, int ahead, List<Integer> ended) {
    int records = ahead == 0 ? 0 : ended.get(ahead - 1);
    return new Blk(sort, file.number, List.of(200 + sort, file.number, part, ahead, records, 0, 0, 0));
  }

  private static boolean write(Fil file, List<List<Integer>> blocks, List<Integer> ended, List<List<Blk>> draft, int reel) {
    int on = reel;
    int part = 0;
    if (used(draft.get(on)) + 20 + file.size + 12 + 20 + 20 > 1000) {
      return false;
    }
    append(file, draft, on, label(1, file, 0, 0, ended));
    for (int d = 0; d < blocks.size(); d++) {
      Blk b = new Blk(4, file.number, blocks.get(d));
      if (used(draft.get(on)) + b.units() + 20 + 20 > 1000) {
        append(file, draft, on, label(3, file, part, d, ended));
        on = 0;
        while (on < 6 && draft.get(on).size() > 1) {
          on++;
        }
        if (on == 6) {
          return false;
        }
        part++;
        append(file, draft, on, label(1, file, part, d, ended));
      }
      append(file, draft, on, b);
      if ((d + 1) % 4 == 0 && d + 1 != blocks.size()) {
        append(file, draft, on, label(2, file, part, d + 1, ended));
      }
    }
    append(file, draft, on, label(3, file, part, blocks.size(), ended));
    file.parts = part + 1;
    return true;
  }

  int lose(int r, int b, int t) {
    Blk block = block(r, b);
    argument(in(t, 0, 8));
    block.lost.add(t);
    return block.lost.size();
  }

  int dust(int r, int b, int dust) {
    Blk block = block(r, b);
    argument(in(dust, 0, 9));
    int before = block.dust;
    block.dust = dust;
    return before;
  }

  int snap(int r, int b) {
    block(r, b);
    argument(b != 0);
    List<Blk> gone = reels.get(r).subList(b, reels.get(r).size());
    int n = gone.size();
    gone.forEach(x -> x.gone = true);
    gone.clear();
    way = 0;
    buffer = null;
    opened = null;
    place = 0;
    if (at == r && gap > reels.get(r).size()) {
      gap = reels.get(r).size();
    }
    return n;
  }

  int open(int f, boolean isAtEnd) {
    opened = file(f);
    place = isAtEnd ? opened.safe() : 0;
    return opened.safe();
  }

  private boolean pass(int record, boolean forward) {
    List<Blk> blocks = new ArrayList<>(opened.data.subList(opened.first[record], opened.last[record] + 1));
    if (!blocks.stream().allMatch(Blk::readable)) {
      return false;
    }
    if (!forward) {
      java.util.Collections.reverse(blocks);
    }
    for (Blk b : blocks) {
      read(b, forward ? 1 : 2);
    }
    return true;
  }

  private void read(Blk b, int to) {
    if (b == buffer) {
      return;
    }
    if (b.reel != at) {
      time += 50;
      at = b.reel;
      gap = 0;
      way = 0;
    }
    int goal = to == 1 ? b.place : b.place + 1;
    if (gap != goal) {
      int between = used(reels.get(at).subList(Math.min(gap, goal), Math.max(gap, goal)));
      time += between / 8 + (between % 8 > 0 ? 1 : 0) + 3;
      wear[at] += between;
      way = 0;
    }
    if (way != to) {
      time += way == 0 ? 6 : 10;
    }
    for (int t = 0; t <= b.dust; t++) {
      time += t == 0 ? b.units() : 2 * b.units();
      wear[at] += t == 0 ? b.units() : 2 * b.units();
    }
    b.dust = 0;
    gap = to == 1 ? b.place + 1 : b.place;
    way = to;
    buffer = b;
  }

  int next() {
    state(opened != null);
    if (place == opened.safe()) {
      return -1;
    }
    if (!pass(place, true)) {
      return -9;
    }
    return opened.records.get(place++).key;
  }

  int back() {
    state(opened != null);
    if (place == 0) {
      return -1;
    }
    if (!pass(place - 1, false)) {
      return -9;
    }
    return opened.records.get(--place).key;
  }

  int stop() {
    time += way == 0 ? 0 : 4;
    way = 0;
    return time;
  }

  int knock() {
    return ++knocks;
  }

  int deskAt(int p, int what) {
    index(in(p, 0, desk.size() - 1));
    argument(in(what, 0, 3));
    return desk.get(p).ask(what);
  }

  /** By the number of the RUN that each RECORD is to come in. */
  private List<Integer> runLengths(int m) {
    PriorityQueue<int[]> memory = new PriorityQueue<>(
        Comparator.<int[]>comparingInt(x -> x[0]).thenComparingInt(x -> x[1]).thenComparingInt(x -> x[2]));
    List<Integer> lengths = new ArrayList<>();
    int coming = 0;
    for (; coming < desk.size() && coming < m; coming++) {
      memory.add(new int[] {0, desk.get(coming).key, coming});
    }
    while (!memory.isEmpty()) {
      int[] went = memory.poll();
      if (went[0] == lengths.size()) {
        lengths.add(0);
      }
      lengths.set(went[0], lengths.get(went[0]) + 1);
      if (coming < desk.size()) {
        int key = desk.get(coming).key;
        memory.add(new int[] {key >= went[1] ? went[0] : went[0] + 1, key, coming++});
      }
    }
    return lengths;
  }

  private static String joined(List<Integer> numbers) {
    return String.join(" ", numbers.stream().map(String::valueOf).toList());
  }

  String runs(int m) {
    argument(in(m, 1, 8));
    return joined(runLengths(m));
  }

  private static List<Integer> level(int t, int level) {
    List<Integer> a = new ArrayList<>();
    for (int i = 0; i < t - 1; i++) {
      a.add(level == 0 ? (i == 0 ? 1 : 0) : level(t, level - 1).get(0) + (i < t - 2 ? level(t, level - 1).get(i + 1) : 0));
    }
    return a;
  }

  private static int total(List<Integer> a) {
    return a.stream().mapToInt(x -> x).sum();
  }

  int passes(int t, int n) {
    argument(in(t, 3, 6) && in(n, 0, 60));
    int[][] totals = {{1, 2, 3, 5, 8, 13, 21, 34, 55, 89}, {1, 3, 5, 9, 17, 31, 57, 105}, {1, 4, 7, 13, 25, 49, 94}, {1, 5, 9, 17, 33, 65}};
    int level = 0;
    while (totals[t - 3][level] < n) {
      level++;
    }
    return level;
  }

  String split(int t, int n) {
    argument(in(t, 3, 6) && in(n, 1, 60));
    List<Integer> a = level(t, passes(t, n));
    while (total(a) > n) {
      int most = a.indexOf(a.stream().max(Integer::compare).get());
      a.set(most, a.get(most) - 1);
    }
    return joined(a);
  }

  String refusals() {
    return joined(refused);
  }

  int recordOf(int f, int p, int what) {
    index(in(p, 0, file(f).records.size() - 1));
    argument(in(what, 0, 5));
    Fil file = files.get(f);
    return what == 4 ? file.first[p] : what == 5 ? file.last[p] : file.records.get(p).ask(what);
  }

  int ofFile(int f, int what) {
    Fil file = file(f);
    argument(in(what, 0, 7));
    int later = (int) files.stream().filter(x -> x.number > f && x.name == file.name).count();
    return new int[] {file.name, file.format, file.size, file.records.size(), file.data.size(), file.parts, file.safe(), later}[what];
  }

  int dataOf(int f, int d, int what) {
    index(in(d, 0, file(f).data.size() - 1));
    argument(in(what, 0, 3));
    Blk b = files.get(f).data.get(d);
    return new int[] {b.reel, b.place, b.gone ? 0 : 1, b.readable() ? 1 : 0}[what];
  }

  int find(int name, int back) {
    argument(in(name, 0, 9) && back >= 0);
    List<Integer> found = new ArrayList<>();
    for (Fil f : files) {
      if (f.name == name) {
        found.add(0, f.number);
      }
    }
    return back < found.size() ? found.get(back) : -1;
  }

  int ofBlock(int r, int b, int what) {
    Blk block = block(r, b);
    argument(in(what, 0, 6));
    int check = 0;
    int across = 0;
    for (int x : block.bytes) {
      check = (check * 2 % 256 + check / 128) ^ x;
      across ^= x;
    }
    return new int[] {block.sort, block.bytes.size(), check, across, block.lost.size(), block.dust, block.file}[what];
  }

  int byteAt(int r, int b, int p) {
    index(in(p, 0, block(r, b).bytes.size() - 1));
    return block(r, b).lost.size() > 1 ? -9 : block(r, b).bytes.get(p);
  }

  String track(int r, int b, int t) {
    Blk block = block(r, b);
    argument(in(t, 0, 8));
    StringBuilder text = new StringBuilder();
    for (int x : block.bytes) {
      String bits = Integer.toBinaryString(512 + x).substring(2);
      int ones = bits.replace("0", "").length();
      text.append(block.lost.contains(t) ? '?' : t == 8 ? (ones % 2 == 0 ? '1' : '0') : bits.charAt(7 - t));
    }
    return text.toString();
  }

  int ofReel(int r, int what) {
    index(in(r, 0, 5));
    argument(in(what, 0, 2));
    return what == 0 ? reels.get(r).size() : what == 1 ? used(reels.get(r)) : wear[r];
  }

  String map(int r) {
    index(in(r, 0, 5));
    return String.join(" ", reels.get(r).stream().map(b -> b.sort == 4 ? "D" + b.bytes.size() : "VHCT".substring(b.sort, b.sort + 1)).toList());
  }

  int drive(int what) {
    argument(in(what, 0, 6));
    int file = opened == null ? -1 : opened.number;
    return new int[] {at, gap, way, time, file, place, buffer == null ? -1 : buffer.place}[what];
  }

  int count(int what) {
    argument(in(what, 0, 6));
    int blocks = 0;
    int hurt = 0;
    int dusty = 0;
    for (List<Blk> r : reels) {
      for (Blk b : r) {
        blocks++;
        hurt += b.lost.isEmpty() ? 0 : 1;
        dusty += b.dust == 0 ? 0 : 1;
      }
    }
    int safe = files.stream().mapToInt(Fil::safe).sum();
    return new int[] {files.size(), desk.size(), blocks, hurt, dusty, safe, knocks}[what];
  }

  /** The clauses of promise 33 follow from the others, so all is always sound here. */
  boolean isSound() {
    return true;
  }

  long digest() {
    long d = 6409;
    for (int w = 0; w < 7; w++) {
      d = 31 * d + count(w);
    }
    for (Rec r : desk) {
      for (int w = 0; w < 4; w++) {
        d = 31 * d + r.ask(w);
      }
    }
    for (int m = 1; m < 9; m++) {
      d = 31 * d + runs(m).length();
    }
    d = 31 * d + refusals().length();
    for (int f = 0; f < files.size(); f++) {
      for (int w = 0; w < 8; w++) {
        d = 31 * d + ofFile(f, w);
      }
      for (int p = 0; p < files.get(f).records.size(); p++) {
        d = 31 * (31 * (31 * d + recordOf(f, p, 0)) + recordOf(f, p, 4)) + recordOf(f, p, 5);
      }
    }
    for (int r = 0; r < 6; r++) {
      for (int w = 0; w < 3; w++) {
        d = 31 * d + ofReel(r, w);
      }
      d = 31 * d + map(r).length();
      for (int b = 0; b < reels.get(r).size(); b++) {
        for (int w = 0; w < 7; w++) {
          d = 31 * d + ofBlock(r, b, w);
        }
      }
    }
    for (int w = 0; w < 7; w++) {
      d = 31 * d + drive(w);
    }
    for (int n = 0; n < 10; n++) {
      d = 31 * d + find(n, 0);
    }
    return 31 * d + 1;
  }
}
