/**
 * Signs with categories, made into tokens one by one. What each call answers stands in the document
 * (DOC.md), as promises 1 to 19; this file keeps its order.
 */
public final class SignCategories {
  private static final int UNKNOWN = -1;
  private static final int OUT_OF_RANGE = -2;
  private static final int NOT_NOW = -3;
  private static final int NO_ROOM = -4;
  private static final int NOTHING_STANDS = -5;
  /** Below all answers and refusals: what a sign gave that gives no token. */
  private static final int GOES_ON = -6;

  private static final int SIGNS = 256;
  private static final int CATEGORIES = 16;
  private static final int ESCAPE = 0;
  private static final int OPEN = 1;
  private static final int CLOSE = 2;
  private static final int END = 5;
  private static final int MARK = 7;
  private static final int IGNORED = 9;
  private static final int BLANK = 10;
  private static final int LETTER = 11;
  private static final int OTHER = 12;
  private static final int ACTIVE = 13;
  private static final int COMMENT = 14;
  private static final int INVALID = 15;

  private static final int BLANK_SIGN = 32;
  private static final int FIRST_END_SIGN = 13;

  private static final int NEW_LINE = 0;
  private static final int MID_LINE = 1;
  private static final int SKIP_BLANKS = 2;

  private static final int MOST_FILES = 8;
  private static final int MOST_LINES = 30;
  private static final int MOST_SIGNS = 120;
  private static final int MOST_LEVELS = 6;
  private static final int MOST_GROUPS = 20;
  private static final int MOST_NAMES = 150;
  private static final int MOST_NAME_SIGNS = 40;
  private static final int MOST_TOKENS = 600;
  private static final int MOST_TOLD = 100;
  private static final int MOST_BYTES = 8;
  /** Far more than all levels' lines have signs together. */
  private static final int MOST_STEPS = 1000000;

  private static final int KIND_SIGN = 0;
  private static final int KIND_NAME = 1;
  private static final int KIND_ACTIVE = 2;
  private static final int TOKEN_PARTS = 6;

  private static final int TOLD_INVALID = 1;
  private static final int TOLD_NO_MEANING = 2;
  private static final int TOLD_LONG_NAME = 3;
  private static final int TOLD_PARTS = 3;

  private static final int PAR = 0;

  private final CategoryTable table;
  private final boolean[] meanings;
  private final Library library;
  private final Level[] levels;
  private final Names names;
  private final Tokens tokens;
  private final Reports reports;
  private int levelCount;
  private int lineEnd;
  private int linesBegun;

  public SignCategories() {
    table = new CategoryTable();
    meanings = new boolean[SIGNS];
    library = new Library();
    levels = new Level[MOST_LEVELS];
    for (int i = 0; i < MOST_LEVELS; i++) {
      levels[i] = new Level();
    }
    names = new Names();
    tokens = new Tokens();
    reports = new Reports();
    lineEnd = FIRST_END_SIGN;
  }

  public int category(int sign, int category, boolean global) {
    if (!isSign(sign) || category < 0 || category >= CATEGORIES) {
      return OUT_OF_RANGE;
    }
    if (global) {
      table.setEverywhere(sign, category);
    } else {
      table.setHere(sign, category);
    }
    return 1;
  }

  public int group(boolean opens) {
    if (opens) {
      return table.beginGroup() ? table.groups : NO_ROOM;
    }
    return table.endGroup() ? table.groups : NOT_NOW;
  }

  public int endSign(int c) {
    if (c != -1 && !isSign(c)) {
      return OUT_OF_RANGE;
    }
    lineEnd = c;
    return 1;
  }

  public int meaning(int sign, boolean has) {
    if (!isSign(sign)) {
      return OUT_OF_RANGE;
    }
    meanings[sign] = has;
    return 1;
  }

  public int file() {
    return library.newFile();
  }

  public int line(int file) {
    return library.hasFile(file) ? library.newLine(file) : UNKNOWN;
  }

  public int add(int file, long bytes, int n) {
    if (!library.hasFile(file)) {
      return UNKNOWN;
    }
    if (n < 1 || n > MOST_BYTES) {
      return OUT_OF_RANGE;
    }
    return library.append(file, bytes, n);
  }

  public int open(int file) {
    if (!library.hasFile(file)) {
      return UNKNOWN;
    }
    if (levelCount < 0 || levelCount >= levels.length) {
      return NO_ROOM;
    }
    levels[levelCount].start(file);
    levelCount++;
    return levelCount;
  }

  public int close() {
    Level top = topLevel();
    if (top == null) {
      return NOT_NOW;
    }
    top.toEnd = true;
    return 1;
  }

  public int next() {
    int refusal = refusalAtOnce();
    if (refusal < 0) {
      return refusal;
    }
    for (int step = 0; step < MOST_STEPS; step++) {
      Level level = levelWithLine();
      if (level == null) {
        return NOT_NOW;
      }
      int answer = level.left() > 0 ? readToken(level) : dropUsedLine(level);
      if (answer != GOES_ON) {
        return answer;
      }
    }
    return NOT_NOW;
  }

  public int raw() {
    int refusal = refusalAtOnce();
    if (refusal < 0) {
      return refusal;
    }
    Level level = levelWithLine();
    if (level == null) {
      return NOT_NOW;
    }
    int place = level.place;
    int sign = level.standing(place);
    if (sign < 0) {
      level.atHand = false;
      return NOTHING_STANDS;
    }
    level.place = place + 1;
    return tokens.put(KIND_SIGN, sign, OTHER, level, place);
  }

  public int token(int i, int what) throws ArrayIndexOutOfBoundsException {
    if (!tokens.has(i) || what < 0 || what >= TOKEN_PARTS) {
      throw new ArrayIndexOutOfBoundsException("no such token or what");
    }
    return tokens.part(i, what);
  }

  public int name(int name, int k) {
    return names.sign(name, k);
  }

  public int told(int i, int what) {
    return reports.part(i, what);
  }

  public int categoryOf(int sign) {
    return isSign(sign) ? table.at(sign) : OUT_OF_RANGE;
  }

  public int state() {
    Level top = topLevel();
    return top != null && top.atHand ? top.state : -1;
  }

  public int count(int what) {
    switch (what) {
      case 0:
        return tokens.size;
      case 1:
        return names.size;
      case 2:
        return library.files;
      case 3:
        return levelCount;
      case 4:
        return table.groups;
      case 5:
        return reports.size;
      case 6:
        return signsLeft();
      case 7:
        return linesBegun;
      default:
        return OUT_OF_RANGE;
    }
  }

  public int check() {
    return names.allDiffer() && tokensHaveNames() ? 1 : 0;
  }

  private static boolean isSign(int sign) {
    return sign >= 0 && sign < SIGNS;
  }

  private Level topLevel() {
    return levelCount > 0 && levelCount <= levels.length ? levels[levelCount - 1] : null;
  }

  private int signsLeft() {
    Level top = topLevel();
    return top != null && top.atHand ? top.left() : 0;
  }

  private boolean tokensHaveNames() {
    for (int i = 0; i < tokens.size; i++) {
      if (tokens.part(i, 0) == KIND_NAME && !names.has(tokens.part(i, 1))) {
        return false;
      }
    }
    return true;
  }

  /** What next() and raw() refuse before they go through anything; 0 if they may read. */
  private int refusalAtOnce() {
    if (levelCount <= 0) {
      return NOT_NOW;
    }
    return tokens.isFull() ? NO_ROOM : 0;
  }

  /** The top level, a line of it begun if need be, behind levels that have none more; null if none is left. */
  private Level levelWithLine() {
    for (int left = levelCount; left > 0; left--) {
      Level top = topLevel();
      if (top == null) {
        return null;
      }
      if (top.atHand) {
        return top;
      }
      if (!top.toEnd && top.begun < library.lineCount(top.file)) {
        top.beginLine(library, lineEnd);
        linesBegun++;
        return top;
      }
      levelCount--;
    }
    return null;
  }

  private static int dropUsedLine(Level level) {
    level.atHand = false;
    return GOES_ON;
  }

  /** Goes through the sign at hand: a token's number, a refusal, or GOES_ON. */
  private int readToken(Level level) {
    int place = level.place;
    level.look(place, table);
    int sign = level.sign;
    int category = table.at(sign);
    level.place = level.behind;
    switch (category) {
      case ESCAPE:
        return readName(level, place);
      case END:
        return readLineEnd(level, place);
      case IGNORED:
        return GOES_ON;
      case BLANK:
        return readBlank(level, place);
      case ACTIVE:
        return readActive(level, sign, place);
      case COMMENT:
        level.atHand = false;
        return GOES_ON;
      case INVALID:
        reports.report(TOLD_INVALID, tokens.size, sign);
        return GOES_ON;
      default:
        level.state = MID_LINE;
        return tokens.put(KIND_SIGN, sign, category, level, place);
    }
  }

  private int readLineEnd(Level level, int place) {
    level.atHand = false;
    if (level.state == NEW_LINE) {
      return tokens.put(KIND_NAME, PAR, 0, level, place);
    }
    if (level.state == MID_LINE) {
      return tokens.put(KIND_SIGN, BLANK_SIGN, BLANK, level, place);
    }
    return GOES_ON;
  }

  private int readBlank(Level level, int place) {
    if (level.state != MID_LINE) {
      return GOES_ON;
    }
    level.state = SKIP_BLANKS;
    return tokens.put(KIND_SIGN, BLANK_SIGN, BLANK, level, place);
  }

  private int readActive(Level level, int sign, int place) {
    level.state = MID_LINE;
    if (isSign(sign) && !meanings[sign]) {
      reports.report(TOLD_NO_MEANING, tokens.size, sign);
    }
    return tokens.put(KIND_ACTIVE, sign, ACTIVE, level, place);
  }

  private int readName(Level level, int place) {
    names.beginDraft();
    level.look(level.place, table);
    int category = table.at(level.sign);
    if (category == LETTER) {
      draftLetters(level);
      level.state = SKIP_BLANKS;
    } else if (level.sign >= 0) {
      names.growDraft(level.sign);
      level.place = level.behind;
      level.state = category == BLANK ? SKIP_BLANKS : MID_LINE;
    } else {
      level.state = MID_LINE;
    }
    // A long name is told even when there is no room for it.
    if (names.draftIsLong()) {
      reports.report(TOLD_LONG_NAME, tokens.size, 0);
    }
    int number = names.numberOfDraft();
    return number < 0 ? NO_ROOM : tokens.put(KIND_NAME, number, 0, level, place);
  }

  private void draftLetters(Level level) {
    for (int left = level.left(); left > 0; left--) {
      level.look(level.place, table);
      if (table.at(level.sign) != LETTER) {
        return;
      }
      names.growDraft(level.sign);
      level.place = level.behind;
    }
  }

  /** The categories now, and for each open group those at its beginning. */
  private static final class CategoryTable {
    final int[] now;
    final int[] before;
    int groups;

    CategoryTable() {
      now = new int[SIGNS];
      before = new int[MOST_GROUPS * SIGNS];
      for (int sign = 0; sign < SIGNS; sign++) {
        now[sign] = isLatinLetter(sign) ? LETTER : OTHER;
      }
      now[92] = ESCAPE;
      now[123] = OPEN;
      now[125] = CLOSE;
      now[13] = END;
      now[94] = MARK;
      now[0] = IGNORED;
      now[32] = BLANK;
      now[126] = ACTIVE;
      now[37] = COMMENT;
      now[127] = INVALID;
    }

    static boolean isLatinLetter(int sign) {
      return sign >= 65 && sign <= 90 || sign >= 97 && sign <= 122;
    }

    /** -1 for what is no sign. */
    int at(int sign) {
      return sign >= 0 && sign < now.length ? now[sign] : -1;
    }

    void setHere(int sign, int category) {
      if (sign >= 0 && sign < now.length) {
        now[sign] = category;
      }
    }

    /** As if it were so before all open groups: no group's end takes it back. */
    void setEverywhere(int sign, int category) {
      setHere(sign, category);
      if (sign < 0 || sign >= SIGNS) {
        return;
      }
      for (int i = sign; i < groups * SIGNS && i < before.length; i += SIGNS) {
        before[i] = category;
      }
    }

    boolean beginGroup() {
      if (groups < 0 || groups >= MOST_GROUPS) {
        return false;
      }
      System.arraycopy(now, 0, before, groups * SIGNS, SIGNS);
      groups++;
      return true;
    }

    boolean endGroup() {
      if (groups <= 0 || groups > MOST_GROUPS) {
        return false;
      }
      groups--;
      System.arraycopy(before, groups * SIGNS, now, 0, SIGNS);
      return true;
    }
  }

  /** The files with their lines: line L of file F has its signs from (F * MOST_LINES + L) * MOST_SIGNS on. */
  private static final class Library {
    final int[] lineCounts;
    final int[] lengths;
    final int[] signs;
    int files;

    Library() {
      lineCounts = new int[MOST_FILES];
      lengths = new int[MOST_FILES * MOST_LINES];
      signs = new int[MOST_FILES * MOST_LINES * MOST_SIGNS];
    }

    boolean hasFile(int file) {
      return file >= 0 && file < files && file < lineCounts.length;
    }

    int newFile() {
      if (files >= MOST_FILES) {
        return NO_ROOM;
      }
      files++;
      return files - 1;
    }

    int lineCount(int file) {
      return hasFile(file) ? lineCounts[file] : 0;
    }

    int newLine(int file) {
      int lines = lineCount(file);
      if (!hasFile(file) || lines >= MOST_LINES) {
        return NO_ROOM;
      }
      lineCounts[file] = lines + 1;
      return lines + 1;
    }

    int append(int file, long bytes, int n) {
      int row = file * MOST_LINES + lineCount(file) - 1;
      if (lineCount(file) <= 0 || row < 0 || row >= lengths.length) {
        return NOT_NOW;
      }
      int length = lengths[row];
      if (length + n > MOST_SIGNS) {
        return NO_ROOM;
      }
      for (int k = 0; k < n; k++) {
        putSign(row * MOST_SIGNS + length + k, (int) (bytes >>> 8 * (n - 1 - k)) & 255);
      }
      lengths[row] = length + n;
      return length + n;
    }

    void putSign(int at, int sign) {
      if (at >= 0 && at < signs.length) {
        signs[at] = sign;
      }
    }

    /** Puts a line into a row, without the blanks at its end: how many signs these are. */
    int copyLine(int file, int line, int[] to) {
      int row = file * MOST_LINES + line;
      if (line < 0 || line >= lineCount(file) || row >= lengths.length) {
        return 0;
      }
      int from = row * MOST_SIGNS;
      int length = lengths[row];
      while (length > 0 && signAt(from + length - 1) == BLANK_SIGN) {
        length--;
      }
      for (int k = 0; k < length && k < to.length; k++) {
        to[k] = signAt(from + k);
      }
      return length;
    }

    int signAt(int at) {
      return at >= 0 && at < signs.length ? signs[at] : -1;
    }
  }

  /** A file that is read, with its line at hand. */
  private static final class Level {
    final int[] signs;
    int file;
    /** How many lines it began; the last of them has the number below. */
    int begun;
    boolean toEnd;
    boolean atHand;
    int length;
    int place;
    int state;
    /** What look() saw: the sign, and the place behind it. */
    int sign;
    int behind;

    Level() {
      signs = new int[MOST_SIGNS + 1];
    }

    void start(int newFile) {
      file = newFile;
      begun = 0;
      toEnd = false;
      atHand = false;
    }

    void beginLine(Library library, int lineEnd) {
      length = library.copyLine(file, begun, signs);
      if (lineEnd >= 0 && length < signs.length) {
        signs[length] = lineEnd;
        length++;
      }
      begun++;
      place = 0;
      state = NEW_LINE;
      atHand = true;
    }

    int left() {
      return place < length ? length - place : 0;
    }

    /** The sign that stands at a place, as it is; -1 if none does. */
    int standing(int at) {
      return at >= 0 && at < length && at < signs.length ? signs[at] : -1;
    }

    /** Sees the sign at a place, told by others or not; the sign is -1 if none stands there. */
    void look(int at, CategoryTable table) {
      sign = standing(at);
      behind = at + 1;
      // A sign that is told may be a mark that tells again.
      for (int left = length; left > 0 && tellsAnother(table); left--) {
        tellAnother();
      }
    }

    boolean tellsAnother(CategoryTable table) {
      if (table.at(sign) != MARK || standing(behind) != sign) {
        return false;
      }
      int teller = standing(behind + 1);
      return teller >= 0 && teller < 128;
    }

    void tellAnother() {
      int teller = standing(behind + 1);
      int high = digit(teller);
      int low = digit(standing(behind + 2));
      if (high >= 0 && low >= 0) {
        sign = 16 * high + low;
        behind += 3;
      } else {
        sign = teller < 64 ? teller + 64 : teller - 64;
        behind += 2;
      }
    }

    static int digit(int sign) {
      if (sign >= 48 && sign <= 57) {
        return sign - 48;
      }
      return sign >= 97 && sign <= 102 ? sign - 87 : -1;
    }
  }

  /** All names, each in a row of MOST_NAME_SIGNS; the draft is the name that is being read. */
  private static final class Names {
    final int[] signs;
    final int[] lengths;
    final int[] draft;
    int size;
    /** How many signs the draft has been given, those beyond its room too. */
    int drafted;

    Names() {
      signs = new int[MOST_NAMES * MOST_NAME_SIGNS];
      lengths = new int[MOST_NAMES];
      draft = new int[MOST_NAME_SIGNS];
      signs[0] = 112;
      signs[1] = 97;
      signs[2] = 114;
      lengths[PAR] = 3;
      size = 1;
    }

    boolean has(int name) {
      return name >= 0 && name < size && name < lengths.length;
    }

    int sign(int name, int k) {
      if (!has(name) || k < 0 || k >= lengths[name]) {
        return -1;
      }
      int at = name * MOST_NAME_SIGNS + k;
      return at < signs.length ? signs[at] : -1;
    }

    void beginDraft() {
      drafted = 0;
    }

    void growDraft(int sign) {
      if (drafted >= 0 && drafted < draft.length) {
        draft[drafted] = sign;
      }
      drafted++;
    }

    boolean draftIsLong() {
      return drafted > MOST_NAME_SIGNS;
    }

    /** The number of the name in the draft, which is new if it has not come before; -1 if there is no room. */
    int numberOfDraft() {
      for (int name = 0; name < size; name++) {
        if (isDraft(name)) {
          return name;
        }
      }
      if (size < 0 || size >= lengths.length) {
        return -1;
      }
      int length = draftLength();
      System.arraycopy(draft, 0, signs, size * MOST_NAME_SIGNS, length);
      lengths[size] = length;
      size++;
      return size - 1;
    }

    int draftLength() {
      return draftIsLong() ? MOST_NAME_SIGNS : drafted;
    }

    boolean isDraft(int name) {
      if (!has(name) || lengths[name] != draftLength()) {
        return false;
      }
      for (int k = 0; k < lengths[name] && k < draft.length; k++) {
        if (sign(name, k) != draft[k]) {
          return false;
        }
      }
      return true;
    }

    boolean allDiffer() {
      for (int a = 0; a < size; a++) {
        for (int b = 0; b < a; b++) {
          if (areSame(a, b)) {
            return false;
          }
        }
      }
      return true;
    }

    /** Behind a name's last sign there is -1, so the lengths are compared, too. */
    boolean areSame(int a, int b) {
      for (int k = 0; k <= MOST_NAME_SIGNS; k++) {
        if (sign(a, k) != sign(b, k)) {
          return false;
        }
      }
      return true;
    }
  }

  /** The tokens, each with its TOKEN_PARTS. */
  private static final class Tokens {
    final int[] parts;
    int size;

    Tokens() {
      parts = new int[MOST_TOKENS * TOKEN_PARTS];
    }

    boolean isFull() {
      return size >= MOST_TOKENS;
    }

    boolean has(int i) {
      return i >= 0 && i < size;
    }

    int put(int kind, int value, int category, Level level, int place) {
      int at = size * TOKEN_PARTS;
      if (isFull() || at < 0 || at + TOKEN_PARTS > parts.length) {
        return NO_ROOM;
      }
      parts[at] = kind;
      parts[at + 1] = value;
      parts[at + 2] = category;
      parts[at + 3] = level.file;
      parts[at + 4] = level.begun - 1;
      parts[at + 5] = place;
      size++;
      return size - 1;
    }

    int part(int i, int what) {
      int at = i * TOKEN_PARTS + what;
      return has(i) && at >= 0 && at < parts.length ? parts[at] : 0;
    }
  }

  /** What was told: all of it is counted, the first MOST_TOLD are kept. */
  private static final class Reports {
    final int[] parts;
    int size;

    Reports() {
      parts = new int[MOST_TOLD * TOLD_PARTS];
    }

    void report(int what, int tokensBefore, int sign) {
      int at = size * TOLD_PARTS;
      if (size >= 0 && size < MOST_TOLD && at + TOLD_PARTS <= parts.length) {
        parts[at] = what;
        parts[at + 1] = tokensBefore;
        parts[at + 2] = sign;
      }
      size++;
    }

    int part(int i, int what) {
      if (i < 0 || i >= size || i >= MOST_TOLD || what < 0 || what >= TOLD_PARTS) {
        return -1;
      }
      int at = i * TOLD_PARTS + what;
      return at < parts.length ? parts[at] : -1;
    }
  }
}
