import java.util.ArrayList;

/** A vault of tapes. What each call promises is told in ../shared/DOC.md; its words in capitals are used here as there. */
public final class Longtapevault {
  private static final int NONE = -1;
  private static final int CANNOT = -9;

  private static final int MOST_KEY = 999;
  private static final int MOST_BYTE = 255;
  private static final int MOST_LONG = 20;
  private static final int MOST_ON_DESK = 40;
  private static final int MOST_FILES = 20;
  private static final int MOST_NAME = 9;
  private static final int MOST_DUST = 9;
  private static final int MOST_MEMORY = 8;
  private static final int MOST_RUNS = 60;
  private static final int LEAST_SIZE = 8;
  private static final int MOST_SIZE = 64;
  private static final int LEAST_REELS = 3;

  private static final int KIND_NEW = 0;
  private static final int KIND_GONE = 2;
  private static final int BYTES_AHEAD_OF_LONG = 4;
  private static final int MOST_RECORD_BYTES = BYTES_AHEAD_OF_LONG + MOST_LONG;

  private static final int REELS = 6;
  private static final int REEL_UNITS = 1000;
  private static final int MORE_UNITS = 12;
  private static final int LABEL_BYTES = 8;
  private static final int LABEL_UNITS = LABEL_BYTES + MORE_UNITS;
  private static final int LABEL_MARK = 200;
  private static final int ENDED_IN_LABEL = 4;
  private static final int DATA_AHEAD_OF_CHECK = 4;

  private static final int VOLUME_LABEL = 0;
  private static final int HEADER = 1;
  private static final int CHECK_LABEL = 2;
  private static final int TRAILER = 3;
  private static final int DATA_BLOCK = 4;

  private static final int FIXED = 0;
  private static final int SPANNED = 2;
  private static final int SEGMENT_HEAD = 2;
  private static final int LEAST_SEGMENT = 3;

  // A RECORD begins at most four DATA BLOCKS (24 BYTES, 6 in each BLOCK of SIZE 8), and touches at most one more.
  private static final int MOST_DATA = 4 * MOST_ON_DESK + 1;
  private static final int MOST_PACKED = MOST_ON_DESK * (MOST_RECORD_BYTES + 5 * SEGMENT_HEAD);

  private static final int TRACKS = 9;
  private static final int PARITY_TRACK = 8;
  private static final int LEAST_BAD_DUST = 3;

  private static final int STANDS = 0;
  private static final int FORWARD = 1;
  private static final int BACK = 2;
  private static final int TICKS_TO_CHANGE = 50;
  private static final int TICKS_TO_WIND = 3;
  private static final int UNITS_A_TICK = 8;
  private static final int TICKS_TO_STOP = 4;
  private static final int TICKS_TO_START = 6;

  // Far above the nine LEVELS that 60 RUNS over three REELS take.
  private static final int MOST_LEVELS = 100;
  private static final int MEMORY_OF_DEALING = 2;
  private static final int MOST_DEALT = 8;
  // 8 RUNS over 5 REELS can be dealt in 495 ways.
  private static final int MOST_DEALINGS = 500;

  private final Records desk = new Records(MOST_ON_DESK);
  private final Records spare = new Records(MOST_ON_DESK);
  private final Row order = new Row(MOST_ON_DESK);
  private final Row refusals = new Row(MOST_ON_DESK);
  private final ArrayList<Reel> reels = new ArrayList<Reel>();
  private final ArrayList<TapeFile> files = new ArrayList<TapeFile>();
  private final Drive deck = new Drive();
  private final Writer writer = new Writer();
  private final Sorter sorter = new Sorter();
  private final Updater updater = new Updater();
  private final Auditor auditor = new Auditor();
  private int thieves = 0;

  public Longtapevault() {
    for (int r = 0; r < REELS; r++) {
      reels.add(new Reel(r));
    }
  }

  // ---- the desk

  public int put(int key, int kind, int seed, int length) throws IllegalArgumentException, IllegalStateException {
    if (!isWithin(key, 0, MOST_KEY) || !isWithin(kind, KIND_NEW, KIND_GONE)
        || !isWithin(seed, 0, MOST_BYTE) || !isWithin(length, 0, MOST_LONG)) {
      throw new IllegalArgumentException("a part of the record is out of its bounds");
    }
    if (desk.size() >= MOST_ON_DESK) {
      throw new IllegalStateException("the desk is full");
    }
    desk.add(key, kind, seed, length);
    return desk.size();
  }

  public int clear() {
    int before = desk.size();
    desk.empty();
    return before;
  }

  public int take(int file) throws IndexOutOfBoundsException {
    TapeFile source = fileAt(file);
    if (source == null) {
      throw new IndexOutOfBoundsException("no such file");
    }
    if (!source.isWhole()) {
      return CANNOT;
    }
    desk.become(source.records);
    return desk.size();
  }

  public int sort(int reels, int memory) throws IllegalArgumentException {
    if (!isWithin(reels, LEAST_REELS, REELS) || !isWithin(memory, 1, MOST_MEMORY)) {
      throw new IllegalArgumentException("reels or memory is out of its bounds");
    }
    sorter.makeRuns(desk, memory);
    desk.tellOrder(order);
    spare.empty();
    for (int i = 0; i < order.size(); i++) {
      spare.addFrom(desk, order.at(i));
    }
    desk.become(spare);
    return sorter.levelFor(reels, sorter.number());
  }

  public int update(int file) throws IndexOutOfBoundsException {
    TapeFile source = fileAt(file);
    if (source == null) {
      throw new IndexOutOfBoundsException("no such file");
    }
    if (!source.isWhole()) {
      return CANNOT;
    }
    updater.merge(source.records, desk);
    if (updater.result.size() > MOST_ON_DESK) {
      return CANNOT;
    }
    desk.become(updater.result);
    refusals.become(updater.refused);
    return refusals.size();
  }

  // ---- files

  public int store(int name, int format, int size, int reel)
      throws IndexOutOfBoundsException, IllegalArgumentException, IllegalStateException {
    if (!isReel(reel)) {
      throw new IndexOutOfBoundsException("no such reel");
    }
    if (!isName(name) || !isWithin(format, FIXED, SPANNED) || !isWithin(size, LEAST_SIZE, MOST_SIZE)) {
      throw new IllegalArgumentException("name, format or size is out of its bounds");
    }
    if (files.size() >= MOST_FILES) {
      throw new IllegalStateException("the files are full");
    }
    return keep(desk, name, format, size, reel);
  }

  public int copy(int file, int size, int reel)
      throws IndexOutOfBoundsException, IllegalArgumentException, IllegalStateException {
    TapeFile source = fileAt(file);
    if (source == null || !isReel(reel)) {
      throw new IndexOutOfBoundsException("no such file or reel");
    }
    if (!isWithin(size, LEAST_SIZE, MOST_SIZE)) {
      throw new IllegalArgumentException("size is out of its bounds");
    }
    if (files.size() >= MOST_FILES) {
      throw new IllegalStateException("the files are full");
    }
    return source.isWhole() ? keep(source.records, source.name, source.format, size, reel) : CANNOT;
  }

  public int lose(int reel, int block, int track) throws IndexOutOfBoundsException, IllegalArgumentException {
    Block hit = blockAt(reel, block);
    if (hit == null) {
      throw new IndexOutOfBoundsException("no such reel or block");
    }
    if (!isTrack(track)) {
      throw new IllegalArgumentException("no such track");
    }
    hit.lost |= 1 << track;
    return hit.lostTracks();
  }

  public int dust(int reel, int block, int dust) throws IndexOutOfBoundsException, IllegalArgumentException {
    Block hit = blockAt(reel, block);
    if (hit == null) {
      throw new IndexOutOfBoundsException("no such reel or block");
    }
    if (!isWithin(dust, 0, MOST_DUST)) {
      throw new IllegalArgumentException("dust is out of its bounds");
    }
    int before = hit.dust;
    hit.dust = dust;
    return before;
  }

  public int snap(int reel, int block) throws IndexOutOfBoundsException, IllegalArgumentException {
    Reel tape = reelAt(reel);
    if (tape == null || tape.blockAt(block) == null) {
      throw new IndexOutOfBoundsException("no such reel or block");
    }
    if (block == 0) {
      throw new IllegalArgumentException("a volume label does not break");
    }
    int gone = tape.cutAt(block);
    deck.feelBreak(tape);
    return gone;
  }

  // ---- the drive

  public int open(int file, boolean isAtEnd) throws IndexOutOfBoundsException {
    TapeFile chosen = fileAt(file);
    if (chosen == null) {
      throw new IndexOutOfBoundsException("no such file");
    }
    int safe = chosen.safe();
    deck.opened = chosen;
    deck.place = isAtEnd ? safe : 0;
    return safe;
  }

  public int next() throws IllegalStateException {
    TapeFile file = deck.opened;
    if (file == null) {
      throw new IllegalStateException("no file is open");
    }
    if (deck.place >= file.safe()) {
      return NONE;
    }
    if (!file.canRecordBeRead(deck.place)) {
      return CANNOT;
    }
    readForward(file, deck.place);
    deck.place++;
    return file.records.key(deck.place - 1);
  }

  public int back() throws IllegalStateException {
    TapeFile file = deck.opened;
    if (file == null) {
      throw new IllegalStateException("no file is open");
    }
    if (deck.place <= 0) {
      return NONE;
    }
    if (!file.canRecordBeRead(deck.place - 1)) {
      return CANNOT;
    }
    readBack(file, deck.place - 1);
    deck.place--;
    return file.records.key(deck.place);
  }

  public int stop() {
    if (deck.moves != STANDS) {
      deck.time += TICKS_TO_STOP;
      deck.moves = STANDS;
    }
    return deck.time;
  }

  public int knock() {
    thieves++;
    return thieves;
  }

  // ---- what is asked of records

  public int deskAt(int place, int what) throws IndexOutOfBoundsException, IllegalArgumentException {
    if (!isWithin(place, 0, desk.size() - 1)) {
      throw new IndexOutOfBoundsException("no such place");
    }
    if (!isWithin(what, 0, 3)) {
      throw new IllegalArgumentException("what is not 0 to 3");
    }
    return desk.partOf(place, what);
  }

  public String runs(int memory) throws IllegalArgumentException {
    if (!isWithin(memory, 1, MOST_MEMORY)) {
      throw new IllegalArgumentException("memory is out of its bounds");
    }
    sorter.makeRuns(desk, memory);
    return sorter.lengths().text();
  }

  public int passes(int reels, int runs) throws IllegalArgumentException {
    if (!isWithin(reels, LEAST_REELS, REELS) || !isWithin(runs, 0, MOST_RUNS)) {
      throw new IllegalArgumentException("reels or runs is out of its bounds");
    }
    return sorter.levelFor(reels, runs);
  }

  public String split(int reels, int runs) throws IllegalArgumentException {
    if (!isWithin(reels, LEAST_REELS, REELS) || !isWithin(runs, 1, MOST_RUNS)) {
      throw new IllegalArgumentException("reels or runs is out of its bounds");
    }
    return sorter.splitFor(reels, runs).text();
  }

  public String refusals() {
    return refusals.text();
  }

  public int recordOf(int file, int place, int what) throws IndexOutOfBoundsException, IllegalArgumentException {
    TapeFile asked = fileAt(file);
    if (asked == null || !isWithin(place, 0, asked.records.size() - 1)) {
      throw new IndexOutOfBoundsException("no such file or place");
    }
    if (!isWithin(what, 0, 5)) {
      throw new IllegalArgumentException("what is not 0 to 5");
    }
    return what == 4 ? asked.firsts.at(place) : what == 5 ? asked.lasts.at(place) : asked.records.partOf(place, what);
  }

  // ---- what is asked of tapes

  public int ofFile(int file, int what) throws IndexOutOfBoundsException, IllegalArgumentException {
    TapeFile asked = fileAt(file);
    if (asked == null) {
      throw new IndexOutOfBoundsException("no such file");
    }
    if (!isWithin(what, 0, 7)) {
      throw new IllegalArgumentException("what is not 0 to 7");
    }
    return what == 7 ? laterGenerations(asked) : asked.partOf(what);
  }

  public int dataOf(int file, int data, int what) throws IndexOutOfBoundsException, IllegalArgumentException {
    TapeFile asked = fileAt(file);
    Block block = asked == null ? null : asked.dataAt(data);
    if (block == null) {
      throw new IndexOutOfBoundsException("no such file or data block");
    }
    if (!isWithin(what, 0, 3)) {
      throw new IllegalArgumentException("what is not 0 to 3");
    }
    switch (what) {
      case 0:
        return block.reel;
      case 1:
        return block.place;
      case 2:
        return block.isGone ? 0 : 1;
      default:
        return block.canBeRead() ? 1 : 0;
    }
  }

  public int find(int name, int back) throws IllegalArgumentException {
    if (!isName(name) || back < 0) {
      throw new IllegalArgumentException("name or back is out of its bounds");
    }
    int later = 0;
    for (int f = files.size() - 1; f >= 0; f--) {
      if (files.get(f).name == name) {
        if (later == back) {
          return f;
        }
        later++;
      }
    }
    return NONE;
  }

  public int ofBlock(int reel, int block, int what) throws IndexOutOfBoundsException, IllegalArgumentException {
    Block asked = blockAt(reel, block);
    if (asked == null) {
      throw new IndexOutOfBoundsException("no such reel or block");
    }
    if (!isWithin(what, 0, 6)) {
      throw new IllegalArgumentException("what is not 0 to 6");
    }
    return asked.partOf(what);
  }

  public int byteAt(int reel, int block, int place) throws IndexOutOfBoundsException {
    Block asked = blockAt(reel, block);
    if (asked == null || !isWithin(place, 0, asked.bytes.size() - 1)) {
      throw new IndexOutOfBoundsException("no such reel, block or place");
    }
    return asked.lostTracks() > 1 ? CANNOT : asked.byteTold(place);
  }

  public String track(int reel, int block, int track) throws IndexOutOfBoundsException, IllegalArgumentException {
    Block asked = blockAt(reel, block);
    if (asked == null) {
      throw new IndexOutOfBoundsException("no such reel or block");
    }
    if (!isTrack(track)) {
      throw new IllegalArgumentException("no such track");
    }
    return asked.bitsText(track);
  }

  public int ofReel(int reel, int what) throws IndexOutOfBoundsException, IllegalArgumentException {
    Reel asked = reelAt(reel);
    if (asked == null) {
      throw new IndexOutOfBoundsException("no such reel");
    }
    if (!isWithin(what, 0, 2)) {
      throw new IllegalArgumentException("what is not 0 to 2");
    }
    return what == 0 ? asked.blocks.size() : what == 1 ? asked.units : asked.wear;
  }

  public String map(int reel) throws IndexOutOfBoundsException {
    Reel asked = reelAt(reel);
    if (asked == null) {
      throw new IndexOutOfBoundsException("no such reel");
    }
    return asked.mapText();
  }

  public int drive(int what) throws IllegalArgumentException {
    if (!isWithin(what, 0, 6)) {
      throw new IllegalArgumentException("what is not 0 to 6");
    }
    return deck.partOf(what);
  }

  // ---- the whole

  public int count(int what) throws IllegalArgumentException {
    if (!isWithin(what, 0, 6)) {
      throw new IllegalArgumentException("what is not 0 to 6");
    }
    switch (what) {
      case 0:
        return files.size();
      case 1:
        return desk.size();
      case 5:
        return safeOfAll();
      case 6:
        return thieves;
      default:
        return countBlocks(what);
    }
  }

  public boolean isSound() {
    for (int f = 0; f < files.size(); f++) {
      TapeFile file = files.get(f);
      if (!auditor.isAsPacked(file) || !auditor.isReadAgain(file) || !auditor.isSafeAsLabelsTell(file)) {
        return false;
      }
    }
    for (int r = 0; r < reels.size(); r++) {
      if (!auditor.areChecksSound(reels.get(r))) {
        return false;
      }
    }
    return auditor.isDeskSound(desk);
  }

  public long digest() {
    long d = 6409;
    for (int what = 0; what <= 6; what++) {
      d = d * 31 + count(what);
    }
    d = withDesk(d);
    for (int f = 0; f < files.size(); f++) {
      d = withFile(d, f);
    }
    for (int r = 0; r < reels.size(); r++) {
      d = withReel(d, reels.get(r));
    }
    for (int what = 0; what <= 6; what++) {
      d = d * 31 + drive(what);
    }
    for (int name = 0; name <= MOST_NAME; name++) {
      d = d * 31 + find(name, 0);
    }
    return d * 31 + (isSound() ? 1 : 0);
  }

  private long withDesk(long before) {
    long d = before;
    for (int place = 0; place < desk.size(); place++) {
      for (int what = 0; what <= 3; what++) {
        d = d * 31 + deskAt(place, what);
      }
    }
    for (int memory = 1; memory <= MOST_MEMORY; memory++) {
      sorter.makeRuns(desk, memory);
      d = d * 31 + sorter.lengths().textLength();
    }
    return d * 31 + refusals.textLength();
  }

  private long withFile(long before, int file) {
    long d = before;
    for (int what = 0; what <= 7; what++) {
      d = d * 31 + ofFile(file, what);
    }
    int records = ofFile(file, 3);
    for (int place = 0; place < records; place++) {
      d = d * 31 + recordOf(file, place, 0);
      d = d * 31 + recordOf(file, place, 4);
      d = d * 31 + recordOf(file, place, 5);
    }
    return d;
  }

  private long withReel(long before, Reel reel) {
    long d = before;
    for (int what = 0; what <= 2; what++) {
      d = d * 31 + ofReel(reel.number, what);
    }
    d = d * 31 + reel.mapTextLength();
    for (int block = 0; block < reel.blocks.size(); block++) {
      for (int what = 0; what <= 6; what++) {
        d = d * 31 + ofBlock(reel.number, block, what);
      }
    }
    return d;
  }

  private int safeOfAll() {
    int safe = 0;
    for (int f = 0; f < files.size(); f++) {
      safe += files.get(f).safe();
    }
    return safe;
  }

  private int countBlocks(int what) {
    int found = 0;
    for (int r = 0; r < reels.size(); r++) {
      Reel reel = reels.get(r);
      for (int b = 0; b < reel.blocks.size(); b++) {
        Block block = reel.blocks.get(b);
        if (what == 2 || (what == 3 && block.lost != 0) || (what == 4 && block.dust > 0)) {
          found++;
        }
      }
    }
    return found;
  }

  private int laterGenerations(TapeFile file) {
    int later = 0;
    for (int f = file.number + 1; f < files.size(); f++) {
      if (files.get(f).name == file.name) {
        later++;
      }
    }
    return later;
  }

  private int keep(Records records, int name, int format, int size, int reel) {
    if (!writer.packer.pack(records, format, size) || !writer.plan(reels, size, reel)) {
      return CANNOT;
    }
    TapeFile file = new TapeFile(files.size(), name, format, size, writer.packer, records);
    writer.write(reels, file);
    files.add(file);
    deck.rest();
    return file.number;
  }

  private void readForward(TapeFile file, int record) {
    int last = file.lasts.at(record);
    for (int data = file.firsts.at(record); data <= last; data++) {
      readData(file, data, FORWARD);
    }
  }

  private void readBack(TapeFile file, int record) {
    int first = file.firsts.at(record);
    for (int data = file.lasts.at(record); data >= first; data--) {
      readData(file, data, BACK);
    }
  }

  private void readData(TapeFile file, int data, int way) {
    Block block = file.dataAt(data);
    Reel reel = block == null ? null : reelAt(block.reel);
    if (reel != null) {
      deck.read(block, reel, way);
    }
  }

  private TapeFile fileAt(int file) {
    return file >= 0 && file < files.size() ? files.get(file) : null;
  }

  private Reel reelAt(int reel) {
    return Writer.reelAt(reels, reel);
  }

  private Block blockAt(int reel, int block) {
    Reel tape = reelAt(reel);
    return tape == null ? null : tape.blockAt(block);
  }

  private static boolean isWithin(int value, int least, int most) {
    return value >= least && value <= most;
  }

  private static boolean isReel(int reel) {
    return isWithin(reel, 0, REELS - 1);
  }

  private static boolean isName(int name) {
    return isWithin(name, 0, MOST_NAME);
  }

  private static boolean isTrack(int track) {
    return isWithin(track, 0, TRACKS - 1);
  }

  private static int digitsOf(int number) {
    return number < 10 ? 1 : number < 100 ? 2 : 3;
  }

  /** Whole numbers in a room that is made once; a place that the row does not have reads as 0. */
  private static final class Row {
    private final int[] cells;
    private int used = 0;

    Row(int room) {
      cells = new int[room < 0 ? 0 : room];
    }

    int size() {
      return used;
    }

    void empty() {
      used = 0;
    }

    int at(int place) {
      return place >= 0 && place < used && place < cells.length ? cells[place] : 0;
    }

    void set(int place, int value) {
      if (place >= 0 && place < used && place < cells.length) {
        cells[place] = value;
      }
    }

    void add(int value) {
      if (used >= 0 && used < cells.length) {
        cells[used] = value;
        used++;
      }
    }

    void fill(int size, int value) {
      used = 0;
      for (int i = 0; i < size; i++) {
        add(value);
      }
    }

    void become(Row other) {
      used = 0;
      for (int i = 0; i < other.used; i++) {
        add(other.at(i));
      }
    }

    boolean has(int value) {
      for (int i = 0; i < used; i++) {
        if (at(i) == value) {
          return true;
        }
      }
      return false;
    }

    int sum() {
      int sum = 0;
      for (int i = 0; i < used; i++) {
        sum += at(i);
      }
      return sum;
    }

    String text() {
      StringBuilder text = new StringBuilder();
      for (int i = 0; i < used; i++) {
        if (i > 0) {
          text.append(' ');
        }
        text.append(at(i));
      }
      return text.toString();
    }

    /** As long as text(), without making it: digest() asks often, and what is made is never given back. */
    int textLength() {
      int length = 0;
      for (int i = 0; i < used; i++) {
        length += (i > 0 ? 1 : 0) + digitsOf(at(i));
      }
      return length;
    }
  }

  /** RECORDS one behind the other. */
  private static final class Records {
    private final Row keys;
    private final Row kinds;
    private final Row seeds;
    private final Row lengths;

    Records(int room) {
      keys = new Row(room);
      kinds = new Row(room);
      seeds = new Row(room);
      lengths = new Row(room);
    }

    int size() {
      return keys.size();
    }

    void empty() {
      keys.empty();
      kinds.empty();
      seeds.empty();
      lengths.empty();
    }

    void add(int key, int kind, int seed, int length) {
      keys.add(key);
      kinds.add(kind);
      seeds.add(seed);
      lengths.add(length);
    }

    void addFrom(Records other, int place) {
      add(other.key(place), other.kind(place), other.seeds.at(place), other.lengths.at(place));
    }

    void addAsNew(Records other, int place) {
      add(other.key(place), KIND_NEW, other.seeds.at(place), other.lengths.at(place));
    }

    void become(Records other) {
      empty();
      for (int r = 0; r < other.size(); r++) {
        addFrom(other, r);
      }
    }

    int key(int place) {
      return keys.at(place);
    }

    int kind(int place) {
      return kinds.at(place);
    }

    int partOf(int place, int what) {
      switch (what) {
        case 0:
          return key(place);
        case 1:
          return kind(place);
        case 2:
          return seeds.at(place);
        default:
          return lengths.at(place);
      }
    }

    int bytesOf(int place) {
      return BYTES_AHEAD_OF_LONG + lengths.at(place);
    }

    int byteOf(int place, int index) {
      switch (index) {
        case 0:
          return keys.at(place) / 256;
        case 1:
          return keys.at(place) % 256;
        case 2:
          return kinds.at(place);
        case 3:
          return seeds.at(place);
        default:
          return (seeds.at(place) + 37 * (index - BYTES_AHEAD_OF_LONG) + keys.at(place)) % 256;
      }
    }

    /** The places by KEYS, like ones as they came. */
    void tellOrder(Row order) {
      order.empty();
      for (int r = 0; r < size(); r++) {
        order.add(r);
        for (int i = r; i > 0 && key(order.at(i - 1)) > key(r); i--) {
          order.set(i, order.at(i - 1));
          order.set(i - 1, r);
        }
      }
    }
  }

  /** A BLOCK as it was written, with what has come over it since. */
  private static final class Block {
    final int sort;
    final int file;
    final int reel;
    final int place;
    final Row bytes;
    final int check;
    final int across;
    int lost = 0;
    int dust = 0;
    boolean isGone = false;

    Block(int sort, int file, int reel, int place, Row source, int from, int to) {
      this.sort = sort;
      this.file = file;
      this.reel = reel;
      this.place = place;
      bytes = new Row(to - from);
      int told = 0;
      int odd = 0;
      for (int i = from; i < to; i++) {
        int value = source.at(i);
        bytes.add(value);
        told = checkWith(told, value);
        odd ^= value;
      }
      check = told;
      across = odd;
    }

    private static int checkWith(int told, int value) {
      return (((told << 1) & MOST_BYTE) | (told >> 7)) ^ value;
    }

    int units() {
      return bytes.size() + MORE_UNITS;
    }

    int lostTracks() {
      return Integer.bitCount(lost);
    }

    boolean canBeRead() {
      return !isGone && lostTracks() <= 1 && dust < LEAST_BAD_DUST;
    }

    int bitAt(int index, int track) {
      int value = bytes.at(index);
      return track == PARITY_TRACK ? 1 - (Integer.bitCount(value) & 1) : (value >> track) & 1;
    }

    /** The BYTE by the TRACKS that are left, the lost one made so that an odd number of the nine is 1. */
    int byteTold(int index) {
      int value = 0;
      int ones = 0;
      for (int track = 0; track < TRACKS; track++) {
        if ((lost & (1 << track)) == 0) {
          int bit = bitAt(index, track);
          ones += bit;
          value |= bit << track;
        }
      }
      return ((ones & 1) == 0 ? value | lost : value) & MOST_BYTE;
    }

    int checkTold() {
      int told = 0;
      for (int i = 0; i < bytes.size(); i++) {
        told = checkWith(told, byteTold(i));
      }
      return told;
    }

    int partOf(int what) {
      switch (what) {
        case 0:
          return sort;
        case 1:
          return bytes.size();
        case 2:
          return check;
        case 3:
          return across;
        case 4:
          return lostTracks();
        case 5:
          return dust;
        default:
          return sort == VOLUME_LABEL ? NONE : file;
      }
    }

    String bitsText(int track) {
      StringBuilder text = new StringBuilder();
      boolean isLost = (lost & (1 << track)) != 0;
      for (int i = 0; i < bytes.size(); i++) {
        text.append(isLost ? '?' : bitAt(i, track) == 1 ? '1' : '0');
      }
      return text.toString();
    }

    boolean isAs(Row source, int from, int to) {
      if (bytes.size() != to - from) {
        return false;
      }
      for (int i = 0; i < bytes.size(); i++) {
        if (bytes.at(i) != source.at(from + i)) {
          return false;
        }
      }
      return true;
    }
  }

  private static final class Reel {
    final int number;
    final ArrayList<Block> blocks = new ArrayList<Block>();
    int units = 0;
    int wear = 0;

    Reel(int number) {
      this.number = number;
      Row label = new Row(LABEL_BYTES);
      label.fill(LABEL_BYTES, 0);
      label.set(0, LABEL_MARK + VOLUME_LABEL);
      label.set(1, number);
      append(new Block(VOLUME_LABEL, NONE, number, 0, label, 0, LABEL_BYTES));
    }

    Block blockAt(int place) {
      return place >= 0 && place < blocks.size() ? blocks.get(place) : null;
    }

    boolean isBlank() {
      return blocks.size() == 1;
    }

    void append(Block block) {
      blocks.add(block);
      units += block.units();
    }

    int cutAt(int place) {
      int gone = 0;
      for (int b = blocks.size() - 1; b >= place && b >= 0; b--) {
        Block block = blocks.get(b);
        block.isGone = true;
        units -= block.units();
        blocks.remove(b);
        gone++;
      }
      return gone;
    }

    int unitsBetween(int from, int to) {
      int between = 0;
      for (int b = from; b < to && b >= 0 && b < blocks.size(); b++) {
        between += blocks.get(b).units();
      }
      return between;
    }

    String mapText() {
      StringBuilder text = new StringBuilder();
      for (int b = 0; b < blocks.size(); b++) {
        Block block = blocks.get(b);
        if (b > 0) {
          text.append(' ');
        }
        text.append(letterOf(block.sort));
        if (block.sort == DATA_BLOCK) {
          text.append(block.bytes.size());
        }
      }
      return text.toString();
    }

    /** As long as mapText(), without making it. */
    int mapTextLength() {
      int length = 0;
      for (int b = 0; b < blocks.size(); b++) {
        Block block = blocks.get(b);
        length += (b > 0 ? 2 : 1) + (block.sort == DATA_BLOCK ? digitsOf(block.bytes.size()) : 0);
      }
      return length;
    }

    private static char letterOf(int sort) {
      switch (sort) {
        case VOLUME_LABEL:
          return 'V';
        case HEADER:
          return 'H';
        case CHECK_LABEL:
          return 'C';
        case TRAILER:
          return 'T';
        default:
          return 'D';
      }
    }
  }

  /** A FILE: its RECORDS as they were STORED, and its BLOCKS as they were written, gone ones too. */
  private static final class TapeFile {
    final int number;
    final int name;
    final int format;
    final int size;
    final Records records;
    final Row firsts;
    final Row lasts;
    final ArrayList<Block> blocks = new ArrayList<Block>();
    final ArrayList<Block> data = new ArrayList<Block>();
    int parts = 0;

    TapeFile(int number, int name, int format, int size, Packer packer, Records source) {
      this.number = number;
      this.name = name;
      this.format = format;
      this.size = size;
      records = new Records(source.size());
      records.become(source);
      firsts = new Row(source.size());
      firsts.become(packer.firsts);
      lasts = new Row(source.size());
      lasts.become(packer.lasts);
    }

    Block dataAt(int place) {
      return place >= 0 && place < data.size() ? data.get(place) : null;
    }

    int safe() {
      int safe = 0;
      for (int b = 0; b < blocks.size(); b++) {
        Block block = blocks.get(b);
        if (block.isGone) {
          return safe;
        }
        if (block.sort != DATA_BLOCK) {
          safe = block.bytes.at(ENDED_IN_LABEL);
        }
      }
      return safe;
    }

    boolean canRecordBeRead(int record) {
      return canDataBeRead(firsts.at(record), lasts.at(record));
    }

    /** Whether all RECORDS are SAFE and can be READ. */
    boolean isWhole() {
      return safe() == records.size() && canDataBeRead(0, data.size() - 1);
    }

    private boolean canDataBeRead(int first, int last) {
      for (int d = first; d <= last; d++) {
        Block block = dataAt(d);
        if (block == null || !block.canBeRead()) {
          return false;
        }
      }
      return true;
    }

    int partOf(int what) {
      switch (what) {
        case 0:
          return name;
        case 1:
          return format;
        case 2:
          return size;
        case 3:
          return records.size();
        case 4:
          return data.size();
        case 5:
          return parts;
        default:
          return safe();
      }
    }
  }

  /** Makes the BYTES of DATA BLOCKS out of RECORDS, in rows that serve again and again. */
  private static final class Packer {
    final Row bytes = new Row(MOST_PACKED);
    final Row firsts = new Row(MOST_ON_DESK);
    final Row lasts = new Row(MOST_ON_DESK);
    private final Row ends = new Row(MOST_DATA);
    private final Row ended = new Row(MOST_DATA);
    private int begin = 0;

    boolean pack(Records records, int format, int size) {
      if (!isSuited(records, format, size)) {
        return false;
      }
      bytes.empty();
      firsts.empty();
      lasts.empty();
      ends.empty();
      ended.empty();
      begin = 0;
      for (int r = 0; r < records.size(); r++) {
        if (format == SPANNED) {
          addSegments(records, r, size);
        } else {
          addWhole(records, r, format, size);
        }
        lasts.add(ends.size());
      }
      closeBlock(records.size());
      return true;
    }

    int number() {
      return ends.size();
    }

    int beginOf(int data) {
      return data <= 0 ? 0 : ends.at(data - 1);
    }

    int endOf(int data) {
      return ends.at(data);
    }

    int unitsOf(int data) {
      return endOf(data) - beginOf(data) + MORE_UNITS;
    }

    int endedAheadOf(int data) {
      return data <= 0 ? 0 : ended.at(data - 1);
    }

    boolean hasCheckBehind(int data) {
      return data % DATA_AHEAD_OF_CHECK == DATA_AHEAD_OF_CHECK - 1 && data < number() - 1;
    }

    private static boolean isSuited(Records records, int format, int size) {
      for (int r = 0; r < records.size(); r++) {
        if (format == FIXED && records.bytesOf(r) != records.bytesOf(0)) {
          return false;
        }
        if (format != SPANNED && records.bytesOf(r) + countBytes(format) > size) {
          return false;
        }
      }
      return records.size() > 0;
    }

    /** How many BYTES stand ahead of a whole RECORD. */
    private static int countBytes(int format) {
      return format == FIXED ? 0 : 1;
    }

    private void addWhole(Records records, int record, int format, int size) {
      int length = records.bytesOf(record);
      if (room(size) < length + countBytes(format)) {
        closeBlock(record);
      }
      firsts.add(ends.size());
      if (format != FIXED) {
        bytes.add(length);
      }
      addBytes(records, record, 0, length);
    }

    private void addSegments(Records records, int record, int size) {
      int length = records.bytesOf(record);
      int ahead = 0;
      for (int step = 0; step < length && ahead < length; step++) {
        if (room(size) < LEAST_SEGMENT) {
          closeBlock(record);
        }
        if (ahead == 0) {
          firsts.add(ends.size());
        }
        int behind = Math.min(length, ahead + room(size) - SEGMENT_HEAD);
        bytes.add(segmentSort(ahead == 0, behind == length));
        bytes.add(behind - ahead);
        addBytes(records, record, ahead, behind);
        ahead = behind;
      }
    }

    private static int segmentSort(boolean isBeginning, boolean isEnd) {
      return isBeginning ? (isEnd ? 0 : 1) : (isEnd ? 3 : 2);
    }

    private void addBytes(Records records, int record, int from, int to) {
      for (int i = from; i < to; i++) {
        bytes.add(records.byteOf(record, i));
      }
    }

    private int room(int size) {
      return size - (bytes.size() - begin);
    }

    private void closeBlock(int recordsEnded) {
      ends.add(bytes.size());
      ended.add(recordsEnded);
      begin = bytes.size();
    }
  }

  /** Finds the REELS for what is packed, and writes it there. Planning comes first, so that -9 changes nothing. */
  private static final class Writer {
    final Packer packer = new Packer();
    private final Row partReels = new Row(REELS);
    private final Row partEnds = new Row(REELS);
    private final Row label = new Row(LABEL_BYTES);

    boolean plan(ArrayList<Reel> reels, int size, int firstReel) {
      partReels.empty();
      partEnds.empty();
      Reel reel = reelAt(reels, firstReel);
      if (reel == null || !hasRoomForPart(reel, size)) {
        return false;
      }
      partReels.add(reel.number);
      int units = reel.units + LABEL_UNITS;
      for (int data = 0; data < packer.number(); data++) {
        if (units + packer.unitsOf(data) + 2 * LABEL_UNITS > REEL_UNITS) {
          partEnds.add(data);
          reel = firstBlankReel(reels);
          if (reel == null || !hasRoomForPart(reel, size)) {
            return false;
          }
          partReels.add(reel.number);
          units = reel.units + LABEL_UNITS;
        }
        units += packer.unitsOf(data) + (packer.hasCheckBehind(data) ? LABEL_UNITS : 0);
      }
      partEnds.add(packer.number());
      return true;
    }

    void write(ArrayList<Reel> reels, TapeFile file) {
      int data = 0;
      for (int part = 0; part < partReels.size(); part++) {
        Reel reel = reelAt(reels, partReels.at(part));
        if (reel == null) {
          return;
        }
        writeLabel(file, reel, HEADER, part, data);
        for (; data < partEnds.at(part); data++) {
          writeData(file, reel, data);
          if (packer.hasCheckBehind(data)) {
            writeLabel(file, reel, CHECK_LABEL, part, data + 1);
          }
        }
        writeLabel(file, reel, TRAILER, part, data);
        file.parts++;
      }
    }

    private void writeData(TapeFile file, Reel reel, int data) {
      int from = packer.beginOf(data);
      int to = packer.endOf(data);
      Block block = new Block(DATA_BLOCK, file.number, reel.number, reel.blocks.size(), packer.bytes, from, to);
      reel.append(block);
      file.blocks.add(block);
      file.data.add(block);
    }

    private void writeLabel(TapeFile file, Reel reel, int sort, int part, int dataAhead) {
      label.fill(LABEL_BYTES, 0);
      label.set(0, LABEL_MARK + sort);
      label.set(1, file.number);
      label.set(2, part);
      label.set(3, dataAhead);
      label.set(ENDED_IN_LABEL, packer.endedAheadOf(dataAhead));
      Block block = new Block(sort, file.number, reel.number, reel.blocks.size(), label, 0, LABEL_BYTES);
      reel.append(block);
      file.blocks.add(block);
    }

    private static boolean hasRoomForPart(Reel reel, int size) {
      return reel.units + 3 * LABEL_UNITS + size + MORE_UNITS <= REEL_UNITS;
    }

    private Reel firstBlankReel(ArrayList<Reel> reels) {
      for (int r = 0; r < reels.size(); r++) {
        Reel reel = reels.get(r);
        if (reel.isBlank() && !partReels.has(reel.number)) {
          return reel;
        }
      }
      return null;
    }

    static Reel reelAt(ArrayList<Reel> reels, int reel) {
      return reel >= 0 && reel < reels.size() ? reels.get(reel) : null;
    }
  }

  private static final class Drive {
    int reel = 0;
    int gap = 0;
    int moves = STANDS;
    int time = 0;
    Block buffer = null;
    TapeFile opened = null;
    int place = 0;

    void read(Block block, Reel tape, int way) {
      if (block == buffer) {
        return;
      }
      if (tape.number != reel) {
        changeTo(tape);
      }
      int start = way == FORWARD ? block.place : block.place + 1;
      if (gap != start) {
        wind(tape, start);
      }
      if (moves != way) {
        time += (moves == STANDS ? 0 : TICKS_TO_STOP) + TICKS_TO_START;
      }
      // Each further try goes over the BLOCK back and forth.
      int passed = block.units() * (2 * block.dust + 1);
      time += passed;
      tape.wear += passed;
      block.dust = 0;
      gap = way == FORWARD ? block.place + 1 : block.place;
      moves = way;
      buffer = block;
    }

    private void changeTo(Reel tape) {
      time += TICKS_TO_CHANGE;
      reel = tape.number;
      gap = 0;
      moves = STANDS;
    }

    private void wind(Reel tape, int to) {
      int between = tape.unitsBetween(Math.min(gap, to), Math.max(gap, to));
      time += (between + UNITS_A_TICK - 1) / UNITS_A_TICK + TICKS_TO_WIND;
      tape.wear += between;
      gap = to;
      moves = STANDS;
    }

    void rest() {
      moves = STANDS;
      buffer = null;
    }

    void feelBreak(Reel tape) {
      rest();
      opened = null;
      place = 0;
      if (tape.number == reel) {
        gap = Math.min(gap, tape.blocks.size());
      }
    }

    int partOf(int what) {
      switch (what) {
        case 0:
          return reel;
        case 1:
          return gap;
        case 2:
          return moves;
        case 3:
          return time;
        case 4:
          return opened == null ? NONE : opened.number;
        case 5:
          return place;
        default:
          return buffer == null ? NONE : buffer.place;
      }
    }
  }

  /** Makes RUNS (the places of the DESK in the order in which they go, and where each RUN ends), and SPLITS them. */
  private static final class Sorter {
    final Row order = new Row(MOST_ON_DESK);
    final Row ends = new Row(MOST_ON_DESK);
    private final Row lengths = new Row(MOST_ON_DESK);
    private final Row held = new Row(MOST_MEMORY);
    private final Row mayCome = new Row(MOST_MEMORY);
    private final Row level = new Row(REELS);

    void makeRuns(Records desk, int memory) {
      order.empty();
      ends.empty();
      held.empty();
      mayCome.empty();
      int coming = Math.min(memory, desk.size());
      for (int r = 0; r < coming; r++) {
        held.add(r);
        mayCome.add(1);
      }
      for (int step = 0; step < desk.size(); step++) {
        int least = leastThatMayCome(desk);
        if (least == NONE) {
          ends.add(order.size());
          mayCome.fill(held.size(), 1);
          least = leastThatMayCome(desk);
        }
        int went = held.at(least);
        order.add(went);
        boolean isMore = coming < desk.size();
        held.set(least, isMore ? coming : NONE);
        mayCome.set(least, isMore && desk.key(coming) >= desk.key(went) ? 1 : 0);
        coming += isMore ? 1 : 0;
      }
      if (desk.size() > 0) {
        ends.add(order.size());
      }
    }

    int number() {
      return ends.size();
    }

    Row lengths() {
      lengths.empty();
      for (int run = 0; run < ends.size(); run++) {
        lengths.add(ends.at(run) - (run == 0 ? 0 : ends.at(run - 1)));
      }
      return lengths;
    }

    private int leastThatMayCome(Records desk) {
      int least = NONE;
      for (int i = 0; i < held.size(); i++) {
        if (held.at(i) != NONE && mayCome.at(i) == 1 && (least == NONE || goesAhead(desk, held.at(i), held.at(least)))) {
          least = i;
        }
      }
      return least;
    }

    private static boolean goesAhead(Records desk, int one, int other) {
      return desk.key(one) < desk.key(other) || (desk.key(one) == desk.key(other) && one < other);
    }

    /** PASSES; the LEVEL itself is in level then. */
    int levelFor(int reels, int runs) {
      level.fill(reels - 1, 0);
      level.set(0, 1);
      int passes = 0;
      for (int step = 0; step < MOST_LEVELS && level.sum() < runs; step++) {
        int first = level.at(0);
        for (int i = 0; i < level.size(); i++) {
          level.set(i, first + (i + 1 < level.size() ? level.at(i + 1) : 0));
        }
        passes++;
      }
      return passes;
    }

    Row splitFor(int reels, int runs) {
      levelFor(reels, runs);
      int dummies = level.sum() - runs;
      for (int dummy = 0; dummy < dummies; dummy++) {
        int most = 0;
        for (int i = 1; i < level.size(); i++) {
          most = level.at(i) > level.at(most) ? i : most;
        }
        level.set(most, level.at(most) - 1);
      }
      return level;
    }
  }

  /** Brings RECORDS up to date by changes; the result can have more than the DESK. */
  private static final class Updater {
    final Records result = new Records(2 * MOST_ON_DESK);
    final Row refused = new Row(MOST_ON_DESK);
    private final Row oldOrder = new Row(MOST_ON_DESK);
    private final Row newOrder = new Row(MOST_ON_DESK);
    // What is there of the KEY that is at hand: RECORDS and a place in them, or null.
    private Records there = null;
    private int thereAt = 0;

    void merge(Records old, Records changes) {
      result.empty();
      refused.empty();
      old.tellOrder(oldOrder);
      changes.tellOrder(newOrder);
      int o = 0;
      int c = 0;
      for (int step = 0; step < 2 * MOST_ON_DESK && (o < old.size() || c < changes.size()); step++) {
        int key = leastKey(old, o, changes, c);
        there = null;
        for (; o < old.size() && old.key(oldOrder.at(o)) == key; o++) {
          there = old;
          thereAt = oldOrder.at(o);
        }
        for (; c < changes.size() && changes.key(newOrder.at(c)) == key; c++) {
          change(changes, newOrder.at(c));
        }
        if (there != null) {
          result.addAsNew(there, thereAt);
        }
      }
      there = null;
    }

    private int leastKey(Records old, int o, Records changes, int c) {
      int oldKey = o < old.size() ? old.key(oldOrder.at(o)) : MOST_KEY;
      int newKey = c < changes.size() ? changes.key(newOrder.at(c)) : MOST_KEY;
      return Math.min(oldKey, newKey);
    }

    private void change(Records changes, int place) {
      int kind = changes.kind(place);
      if ((kind == KIND_NEW) == (there != null)) {
        refused.add(changes.key(place));
      } else if (kind == KIND_GONE) {
        there = null;
      } else {
        there = changes;
        thereAt = place;
      }
    }
  }

  /** Looks whether all is as promise 33 tells it. */
  private static final class Auditor {
    private static final int UNKNOWN = 0;
    private static final int BEST = 1;
    private static final int NOT_BEST = 2;

    private final Packer packer = new Packer();
    private final Sorter sorter = new Sorter();
    private final Row read = new Row(MOST_RECORD_BYTES);
    private final Row order = new Row(MOST_ON_DESK);
    private final Row seen = new Row(MOST_ON_DESK);
    private final Row dealt = new Row(REELS);
    private final Row merging = new Row(REELS);
    private final Row answers = new Row(MOST_DEALT + 1);

    Auditor() {
      answers.fill(MOST_DEALT + 1, UNKNOWN);
    }

    boolean isAsPacked(TapeFile file) {
      if (!packer.pack(file.records, file.format, file.size) || packer.number() != file.data.size()) {
        return false;
      }
      for (int d = 0; d < file.data.size(); d++) {
        Block block = file.data.get(d);
        if (!block.isGone && !block.isAs(packer.bytes, packer.beginOf(d), packer.endOf(d))) {
          return false;
        }
      }
      return true;
    }

    boolean isReadAgain(TapeFile file) {
      int found = 0;
      read.empty();
      for (int d = 0; d < file.data.size(); d++) {
        Block block = file.data.get(d);
        if (block.isGone) {
          return true;
        }
        found = readBlock(file, block.bytes, found);
        if (found == NONE) {
          return false;
        }
      }
      return found == file.records.size();
    }

    /** How many RECORDS have ended with this BLOCK, if found had ahead of it; NONE if one is not as it was STORED. */
    private int readBlock(TapeFile file, Row bytes, int found) {
      int ended = found;
      int at = 0;
      for (int step = 0; step < bytes.size() && at < bytes.size(); step++) {
        int head = file.format;
        int sort = file.format == SPANNED ? bytes.at(at) : 0;
        int length = head == 0 ? file.records.bytesOf(0) : bytes.at(at + head - 1);
        for (int i = 0; i < length; i++) {
          read.add(bytes.at(at + head + i));
        }
        if (sort == 0 || sort == 3) {
          if (!isRecordRead(file.records, ended)) {
            return NONE;
          }
          ended++;
          read.empty();
        }
        at += head + length;
      }
      return ended;
    }

    private boolean isRecordRead(Records records, int record) {
      if (record >= records.size() || read.size() != records.bytesOf(record)) {
        return false;
      }
      for (int i = 0; i < read.size(); i++) {
        if (read.at(i) != records.byteOf(record, i)) {
          return false;
        }
      }
      return true;
    }

    /** From behind: the last label ahead of the first BLOCK that is gone tells SAFE. */
    boolean isSafeAsLabelsTell(TapeFile file) {
      int there = 0;
      while (there < file.blocks.size() && !file.blocks.get(there).isGone) {
        there++;
      }
      for (int b = there - 1; b >= 0; b--) {
        Block block = file.blocks.get(b);
        if (block.sort != DATA_BLOCK) {
          return file.safe() == block.bytes.at(ENDED_IN_LABEL);
        }
      }
      return file.safe() == 0;
    }

    boolean areChecksSound(Reel reel) {
      for (int b = 0; b < reel.blocks.size(); b++) {
        Block block = reel.blocks.get(b);
        if (block.lostTracks() == 1 && block.checkTold() != block.check) {
          return false;
        }
      }
      return true;
    }

    boolean isDeskSound(Records desk) {
      for (int memory = 1; memory <= MOST_MEMORY; memory++) {
        sorter.makeRuns(desk, memory);
        if (!areRunsSound(desk, memory)) {
          return false;
        }
      }
      sorter.makeRuns(desk, MEMORY_OF_DEALING);
      return isBestFor(Math.min(sorter.number(), MOST_DEALT)) && isOrderSound(desk);
    }

    private boolean areRunsSound(Records desk, int memory) {
      if (sorter.order.size() != desk.size()) {
        return false;
      }
      seen.fill(desk.size(), 0);
      int run = 0;
      for (int i = 0; i < desk.size(); i++) {
        int place = sorter.order.at(i);
        boolean isBeginning = run < sorter.number() && sorter.ends.at(run) == i;
        run += isBeginning ? 1 : 0;
        if (seen.at(place) != 0 || (i > 0 && !follows(desk, i, isBeginning, memory))) {
          return false;
        }
        seen.set(place, 1);
      }
      return true;
    }

    private boolean follows(Records desk, int i, boolean isBeginning, int memory) {
      int key = desk.key(sorter.order.at(i));
      int ahead = desk.key(sorter.order.at(i - 1));
      return isBeginning ? memory != 1 || key < ahead : key >= ahead;
    }

    private boolean isOrderSound(Records desk) {
      desk.tellOrder(order);
      for (int r = 0; r < desk.size(); r++) {
        int ahead = 0;
        for (int i = 0; i < desk.size(); i++) {
          if (desk.key(i) < desk.key(r) || (desk.key(i) == desk.key(r) && i < r)) {
            ahead++;
          }
        }
        if (order.at(ahead) != r) {
          return false;
        }
      }
      return order.size() == desk.size();
    }

    /** Whether PASSES are the fewest over 3 to 6 REELS; this hangs on the number of RUNS alone, so it is told but once. */
    private boolean isBestFor(int runs) {
      if (answers.at(runs) == UNKNOWN) {
        boolean isBest = true;
        for (int reels = LEAST_REELS; reels <= REELS && isBest; reels++) {
          isBest = isBestOver(reels, runs);
        }
        answers.set(runs, isBest ? BEST : NOT_BEST);
      }
      return answers.at(runs) != NOT_BEST;
    }

    private boolean isBestOver(int reels, int runs) {
      int fewer = sorter.levelFor(reels, runs) - 1;
      if (fewer < 0) {
        return true;
      }
      dealt.fill(reels - 1, 0);
      dealt.set(0, runs);
      boolean isMore = true;
      for (int way = 0; way < MOST_DEALINGS && isMore; way++) {
        if (comesToOne(fewer)) {
          return false;
        }
        isMore = dealNextWay();
      }
      return true;
    }

    /** The next way to deal as many: of the first REEL with RUNS one goes to the next REEL, the others to the first. */
    private boolean dealNextWay() {
      for (int i = 0; i + 1 < dealt.size(); i++) {
        int runs = dealt.at(i);
        if (runs > 0) {
          dealt.set(i, 0);
          dealt.set(0, runs - 1);
          dealt.set(i + 1, dealt.at(i + 1) + 1);
          return true;
        }
      }
      return false;
    }

    private boolean comesToOne(int passes) {
      merging.become(dealt);
      merging.add(0);
      for (int pass = 0; pass < passes && merging.sum() > 1; pass++) {
        mergeOnce();
      }
      return merging.sum() == 1;
    }

    private void mergeOnce() {
      int least = 0;
      int blank = NONE;
      for (int i = 0; i < merging.size(); i++) {
        int runs = merging.at(i);
        if (runs > 0 && (least == 0 || runs < least)) {
          least = runs;
        }
        if (runs == 0 && blank == NONE) {
          blank = i;
        }
      }
      for (int i = 0; i < merging.size(); i++) {
        if (merging.at(i) > 0) {
          merging.set(i, merging.at(i) - least);
        }
      }
      merging.set(blank, least);
    }
  }
}
