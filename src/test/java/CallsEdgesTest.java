/** Promises 1 to 19: for each sentence that names an edge or a refusal, a test of its own at that edge. */
public final class CallsEdgesTest {
  private static final int MIN = Integer.MIN_VALUE;
  private static final int MAX = Integer.MAX_VALUE;
  private static final Due due = new Due();
  private static final String FORTY = "abcdefghij".repeat(4);
  private static final String FULL = "abcdefgh".repeat(15);

  public static void main(String[] args) {
    newObject();
    settings();
    files();
    levels();
    next();
    raw();
    looks();
    due.end("CallsEdgesTest");
  }

  /** Something of everything: a group, a line at hand in state 2, a second level's file, told signs, names. */
  private static void busy(SignCategories x) {
    Due.file(x, "a\\n  ~^^41 b\u007f", "c");
    Due.file(x, "1");
    x.group(true);
    x.category('b', 13, false);
    x.open(0);
    x.next();
    x.next();
  }

  private static void refused(String name, int answer, Twins.Call call) {
    Twins.refused(due, name, answer, CallsEdgesTest::busy, call);
  }

  private static void newObject() {
    due.sentence("Categories as at first, END SIGN 13, no files, no tokens; active signs without meanings", CallsEdgesTest::asAtFirst);
    due.sentence("A new object: nothing of another one", CallsEdgesTest::nothingOfAnother);
  }

  private static void asAtFirst() {
    SignCategories x = new SignCategories();
    int[] counts = {0, 1, 0, 0, 0, 0, 0, 0};
    for (int what = 0; what < counts.length; what++) {
      due.is("count(" + what + ")", x.count(what), counts[what]);
    }
    due.is("state()", x.state(), -1);
    due.is("line(0)", x.line(0), -1);
    due.is("add(0, 0, 1)", x.add(0, 0, 1), -1);
    due.is("open(0)", x.open(0), -1);
    due.is("close()", x.close(), -3);
    due.is("group(false)", x.group(false), -3);
    due.is("next()", x.next(), -3);
    due.is("raw()", x.raw(), -3);
    due.noToken(x, 0, 0);
    due.is("told(0, 0)", x.told(0, 0), -1);
    due.is("check()", x.check(), 1);
    x.open(Due.file(x, "~"));
    x.next();
    due.told(x, 0, 2, 0, '~');
    x.raw();
    due.token(x, 1, 0, 13, 12, 0, 0, 1);
  }

  private static void nothingOfAnother() {
    SignCategories x = new SignCategories();
    busy(x);
    x.category('a', 3, true);
    x.endSign(-1);
    x.meaning('~', true);
    x.close();
    asAtFirst();
    SignCategories y = new SignCategories();
    due.is("categoryOf(97)", y.categoryOf('a'), 11);
    due.is("count(1)", y.count(1), 1);
    due.is("name(1, 0)", y.name(1, 0), -1);
  }

  private static void settings() {
    due.sentence("category: -2 sign not 0 .. 255, category not 0 .. 15", CallsEdgesTest::categoryRanges);
    due.sentence("category: A sign has a category from now on", CallsEdgesTest::categoryFromNowOn);
    due.sentence("group: -3 none is; -4 there are 20", CallsEdgesTest::groupRefusals);
    due.sentence("group: how many are open", CallsEdgesTest::howManyAreOpen);
    due.sentence("endSign: -2 not -1 .. 255", CallsEdgesTest::endSignRange);
    due.sentence("endSign: of lines that begin from now on", CallsEdgesTest::endSignFromNowOn);
    due.sentence("meaning: -2 not 0 .. 255", CallsEdgesTest::meaningRange);
    due.sentence("meaning: from now on", CallsEdgesTest::meaningFromNowOn);
  }

  private static void categoryRanges() {
    for (boolean global : new boolean[] {false, true}) {
      for (int sign : new int[] {-1, 256, MIN, MAX, 512, -255}) {
        refused("category(" + sign + ", 0, " + global + ")", -2, x -> x.category(sign, 0, global));
      }
      for (int category : new int[] {-1, 16, MIN, MAX}) {
        refused("category(97, " + category + ", " + global + ")", -2, x -> x.category('a', category, global));
        refused("category(255, " + category + ", " + global + ")", -2, x -> x.category(255, category, global));
        refused("category(256, " + category + ", " + global + ")", -2, x -> x.category(256, category, global));
      }
      SignCategories x = new SignCategories();
      for (int sign : new int[] {0, 255}) {
        for (int category : new int[] {0, 15}) {
          due.is("category(" + sign + ", " + category + ", " + global + ")", x.category(sign, category, global), 1);
          due.is("categoryOf(" + sign + ")", x.categoryOf(sign), category);
        }
      }
      due.is("categoryOf(1)", x.categoryOf(1), 12);
      due.is("categoryOf(254)", x.categoryOf(254), 12);
    }
  }

  private static void categoryFromNowOn() {
    SignCategories x = Due.reading("aab", "a");
    x.next();
    due.is("category('a', 13, false)", x.category('a', 13, false), 1);
    due.is("the token that there is", Due.part(x, 0, 2), 11);
    x.next();
    due.token(x, 1, 2, 'a', 13, 0, 0, 1);
    x.category('b', 14, false);
    x.next();
    due.token(x, 2, 2, 'a', 13, 0, 1, 0);
    due.is("category('a', 13, false) once more", x.category('a', 13, false), 1);
  }

  private static void groupRefusals() {
    Twins.refused(due, "group(false)", -3, x -> Due.file(x, "a"), x -> x.group(false));
    Twins.refused(due, "group(false) behind a group", -3, x -> {
      Due.file(x, "a");
      x.group(true);
      x.category('a', 3, false);
      x.group(false);
      x.category('a', 4, false);
    }, x -> x.group(false));
    Twins.refused(due, "group(true)", -4, x -> {
      Due.file(x, "a");
      for (int i = 0; i < 20; i++) {
        x.category('a', i % 16, false);
        x.group(true);
      }
      x.category('a', 5, false);
    }, x -> x.group(true));
  }

  private static void howManyAreOpen() {
    SignCategories x = new SignCategories();
    due.is("group(true)", x.group(true), 1);
    due.is("count(4)", x.count(4), 1);
    due.is("group(false)", x.group(false), 0);
    due.is("count(4)", x.count(4), 0);
    due.is("group(false)", x.group(false), -3);
    for (int i = 1; i <= 19; i++) {
      x.group(true);
    }
    due.is("group(true) of the 20th", x.group(true), 20);
    due.is("group(true) of the 21st", x.group(true), -4);
    due.is("count(4)", x.count(4), 20);
    due.is("group(false)", x.group(false), 19);
    due.is("group(true)", x.group(true), 20);
  }

  private static void endSignRange() {
    for (int wrong : new int[] {-2, 256, MIN, MAX}) {
      refused("endSign(" + wrong + ")", -2, x -> x.endSign(wrong));
    }
    for (int right : new int[] {-1, 0, 255}) {
      SignCategories x = Due.reading("a");
      due.is("endSign(" + right + ")", x.endSign(right), 1);
      x.raw();
      due.is("raw() behind it", x.raw(), right < 0 ? -5 : 1);
      due.is("the end sign", Due.part(x, 1, 1), right < 0 ? MIN : right);
    }
  }

  private static void endSignFromNowOn() {
    SignCategories x = Due.reading("a", "b", "c");
    x.next();
    x.endSign('!');
    due.is("next() in the line at hand", x.next(), 1);
    due.token(x, 1, 0, 32, 10, 0, 0, 1);
    x.next();
    x.endSign(-1);
    x.next();
    due.token(x, 3, 0, '!', 12, 0, 1, 1);
    due.rest(x, "sign99/11@0");
    // Of lines of the level below, too, and set before any level.
    x = new SignCategories();
    x.endSign('?');
    x.open(Due.file(x, "a", "b"));
    x.next();
    x.open(Due.file(x, "1"));
    x.next();
    x.endSign('!');
    due.rest(x, "sign63/12@1 sign63/12@1 sign98/11@0 sign33/12@1");
  }

  private static void meaningRange() {
    for (boolean has : new boolean[] {false, true}) {
      for (int wrong : new int[] {-1, 256, MIN, MAX}) {
        refused("meaning(" + wrong + ", " + has + ")", -2, x -> x.meaning(wrong, has));
      }
      for (int right : new int[] {0, 255}) {
        SignCategories x = Due.reading("" + (char) right);
        x.category(right, 13, false);
        x.meaning(right, !has);
        due.is("meaning(" + right + ", " + has + ")", x.meaning(right, has), 1);
        x.next();
        due.is("count(5)", x.count(5), has ? 0 : 1);
        due.is("told(0, 2)", x.told(0, 2), has ? -1 : right);
      }
    }
  }

  private static void meaningFromNowOn() {
    SignCategories x = Due.reading("~~~~");
    x.next();
    x.meaning('~', true);
    due.is("count(5): what was told stays", x.count(5), 1);
    x.next();
    due.is("count(5)", x.count(5), 1);
    x.meaning('~', false);
    x.next();
    due.is("count(5)", x.count(5), 2);
    due.told(x, 1, 2, 2, '~');
    // The end of a group does not take it back, and only active signs are told.
    x.group(true);
    x.meaning('~', true);
    x.group(false);
    x.next();
    due.is("count(5)", x.count(5), 2);
    due.rest(x, "sign32/10@4");
    due.is("count(5)", x.count(5), 2);
  }

  private static void files() {
    due.sentence("file: its number. -4", CallsEdgesTest::fileRefusal);
    due.sentence("file: One more file, without lines", CallsEdgesTest::fileWithoutLines);
    due.sentence("line: -1 no such file; -4", CallsEdgesTest::lineRefusals);
    due.sentence("line: One more line of a file, empty: how many it has", CallsEdgesTest::oneMoreLine);
    due.sentence("add: The lowest n bytes of a number, the highest of them first", CallsEdgesTest::lowestBytes);
    due.sentence("add: behind the signs of a file's last line: how many these are", CallsEdgesTest::lastLine);
    due.sentence("add: -1 no such file", CallsEdgesTest::addToNoFile);
    due.sentence("add: -2 n not 1 .. 8", CallsEdgesTest::addOutOfRange);
    due.sentence("add: -3 no line", CallsEdgesTest::addToNoLine);
    due.sentence("add: -4 more than 120", CallsEdgesTest::addTooMuch);
    due.sentence("add: the first that fits", CallsEdgesTest::addTheFirstThatFits);
  }

  private static void fileRefusal() {
    Twins.refused(due, "file() of the ninth", -4, x -> {
      busy(x);
      for (int i = 2; i < 8; i++) {
        due.is("file()", x.file(), i);
      }
    }, SignCategories::file);
  }

  private static void fileWithoutLines() {
    SignCategories x = new SignCategories();
    Due.file(x, "a");
    due.is("file()", x.file(), 1);
    due.is("add(1, 97, 1)", x.add(1, 97, 1), -3);
    due.is("open(1)", x.open(1), 1);
    due.is("raw()", x.raw(), -3);
    due.is("line(1)", x.line(1), 1);
    due.is("line(0)", x.line(0), 2);
  }

  private static void lineRefusals() {
    for (int wrong : new int[] {-1, 2, 3, 7, 8, MIN, MAX}) {
      refused("line(" + wrong + ")", -1, x -> x.line(wrong));
    }
    Twins.Calls thirty = x -> {
      x.file();
      for (int i = 1; i <= 30; i++) {
        due.is("line(0)", x.line(0), i);
      }
      Due.add(x, 0, "z");
      x.file();
      x.line(1);
    };
    Twins.refused(due, "line(0) of the 31st", -4, thirty, x -> x.line(0));
    Twins.refused(due, "line(2) where file 0 is full", -1, thirty, x -> x.line(2));
    SignCategories x = new SignCategories();
    thirty.on(x);
    x.line(0);
    due.is("add(0, 121, 1) to the 30th", x.add(0, 'y', 1), 2);
  }

  private static void oneMoreLine() {
    SignCategories x = new SignCategories();
    Due.file(x, "ab");
    x.file();
    due.is("line(0)", x.line(0), 2);
    due.is("line(1)", x.line(1), 1);
    due.is("add(0, 99, 1) to an empty line", x.add(0, 'c', 1), 1);
    due.is("line(0)", x.line(0), 3);
    x.endSign(-1);
    x.open(0);
    x.open(1);
    due.rest(x, "sign97/11@0 sign98/11@1 sign99/11@0");
    due.is("count(7)", x.count(7), 4);
  }

  private static void lowestBytes() {
    for (int n = 1; n <= 8; n++) {
      for (long bytes : new long[] {0x8182838485868788L, 0x7f00ff01fe02fd03L, 0L, -1L}) {
        SignCategories x = Due.reading("");
        due.is("add(0, .., " + n + ")", x.add(0, bytes, n), n);
        for (int k = 0; k < n; k++) {
          due.is("raw()", x.raw(), k);
          due.is("sign " + k + " of " + n, Due.part(x, k, 1), bytes >>> 8 * (n - 1 - k) & 255);
        }
        x.raw();
        due.is("raw() behind the end sign", x.raw(), -5);
      }
    }
  }

  private static void lastLine() {
    SignCategories x = new SignCategories();
    Due.file(x, "ab", "c");
    Due.file(x, "1");
    due.is("add(0, .., 2)", x.add(0, 0x6465L, 2), 3);
    due.is("add(1, .., 1)", x.add(1, '2', 1), 2);
    due.is("add(0, .., 8)", x.add(0, 0x2020202020202020L, 8), 11);
    due.is("add(0, .., 1)", x.add(0, 'f', 1), 12);
    x.open(0);
    due.rest(x, "sign97/11@0 sign98/11@1 sign32/10@2 sign99/11@0 sign100/11@1 sign101/11@2 sign32/10@3 sign102/11@11 sign32/10@12");
    x.open(1);
    due.rest(x, "sign49/12@0 sign50/12@1 sign32/10@2");
  }

  private static void addToNoFile() {
    for (int wrong : new int[] {-1, 2, 3, 7, 8, MIN, MAX}) {
      refused("add(" + wrong + ", 98, 1)", -1, x -> x.add(wrong, 'b', 1));
    }
    Twins.refused(due, "add(8, 98, 1) with all files", -1, x -> {
      for (int i = 0; i < 8; i++) {
        Due.file(x, "a");
      }
    }, x -> x.add(8, 'b', 1));
  }

  private static void addOutOfRange() {
    for (int wrong : new int[] {0, 9, -1, -8, MIN, MAX, 256 + 1}) {
      refused("add(0, 98, " + wrong + ")", -2, x -> x.add(0, 'b', wrong));
    }
    SignCategories x = new SignCategories();
    Due.file(x, "");
    due.is("add(0, 98, 1)", x.add(0, 'b', 1), 1);
    due.is("add(0, 98, 8)", x.add(0, 'b', 8), 9);
  }

  private static void addToNoLine() {
    Twins.Calls before = x -> {
      Due.file(x, "a");
      x.file();
    };
    Twins.refused(due, "add(1, 98, 1)", -3, before, x -> x.add(1, 'b', 1));
    Twins.refused(due, "add(1, 98, 8)", -3, before, x -> x.add(1, 'b', 8));
    SignCategories x = new SignCategories();
    before.on(x);
    x.add(1, 'b', 1);
    due.is("line(1)", x.line(1), 1);
    due.is("add(1, 98, 1)", x.add(1, 'b', 1), 1);
  }

  private static void addTooMuch() {
    for (int n = 1; n <= 8; n++) {
      int size = n;
      Twins.Calls before = x -> {
        Due.file(x, FULL.substring(0, 121 - size));
        x.file();
        x.open(0);
        x.close();
      };
      Twins.refused(due, "add(0, .., " + n + ") to a line of " + (121 - n), -4, before, x -> x.add(0, -1L, size));
      SignCategories x = new SignCategories();
      before.on(x);
      x.add(0, -1L, n);
      due.is("add(0, .., " + n + "), one sign more", x.add(0, -1L, n - 1), n > 1 ? 120 : -2);
      due.is("add(0, 0, 1) to a full line", x.add(0, 0, 1), -4);
    }
  }

  private static void addTheFirstThatFits() {
    SignCategories x = new SignCategories();
    due.is("no file, wrong n", x.add(0, 0, 0), -1);
    due.is("no file, n", x.add(0, 0, 8), -1);
    x.file();
    due.is("no line, wrong n", x.add(0, 0, 9), -2);
    due.is("no line, wrong n", x.add(0, 0, 0), -2);
    due.is("no line", x.add(0, 0, 8), -3);
    Due.line(x, 0, FULL);
    due.is("no room, wrong n", x.add(0, 0, 9), -2);
    due.is("no room, wrong n", x.add(0, 0, 0), -2);
    due.is("no room, no file", x.add(1, 0, 8), -1);
    due.is("no room", x.add(0, 0, 8), -4);
    x.line(0);
    due.is("add(0, 0, 8) to a new line", x.add(0, 0, 8), 8);
  }

  private static void levels() {
    due.sentence("open: -1 no such file; -4 there are 6", CallsEdgesTest::openRefusals);
    due.sentence("open: how many levels there are", CallsEdgesTest::howManyLevels);
    due.sentence("close: -3 there is none", CallsEdgesTest::closeRefusal);
    due.sentence("close: when its line at hand is over", CallsEdgesTest::closeWithALineAtHand);
    due.sentence("close: (or the last one that it began) is over", CallsEdgesTest::closeBehindALine);
    due.sentence("close: before the first line", CallsEdgesTest::closeBeforeTheFirstLine);
    due.sentence("close: The top level", CallsEdgesTest::closeTheTopLevel);
  }

  private static void openRefusals() {
    for (int wrong : new int[] {-1, 2, 3, 7, 8, MIN, MAX}) {
      refused("open(" + wrong + ")", -1, x -> x.open(wrong));
    }
    Twins.Calls six = x -> {
      Due.file(x, "ab", "c");
      for (int i = 1; i <= 6; i++) {
        due.is("open(0)", x.open(0), i);
      }
      x.next();
    };
    Twins.refused(due, "open(0) of the seventh", -4, six, x -> x.open(0));
    Twins.refused(due, "open(1) of the seventh", -1, six, x -> x.open(1));
    Twins.refused(due, "open(-1) of the seventh", -1, six, x -> x.open(-1));
    // Levels that are to end, or have no line more, take their room until a token is asked for.
    SignCategories x = new SignCategories();
    x.file();
    for (int i = 0; i < 6; i++) {
      x.open(0);
    }
    x.close();
    due.is("open(0) behind close()", x.open(0), -4);
    due.is("raw()", x.raw(), -3);
    due.is("open(0) behind raw()", x.open(0), 1);
  }

  private static void howManyLevels() {
    SignCategories x = Due.reading("a");
    due.is("open(0)", x.open(0), 2);
    x.next();
    x.next();
    due.is("open(0) where the line is over", x.open(0), 3);
    due.is("count(3)", x.count(3), 3);
    due.rest(x, "sign97/11@0 sign32/10@1 sign97/11@0 sign32/10@1");
    due.is("open(0)", x.open(0), 1);
  }

  private static void closeRefusal() {
    Twins.refused(due, "close()", -3, x -> Due.file(x, "a", "b"), SignCategories::close);
    Twins.refused(due, "close() behind all levels", -3, x -> {
      Due.file(x, "a%", "b%");
      x.open(0);
      x.next();
      x.close();
      x.next();
    }, SignCategories::close);
  }

  private static void closeWithALineAtHand() {
    SignCategories x = Due.reading("ab", "c");
    x.next();
    due.is("close()", x.close(), 1);
    due.is("state()", x.state(), 1);
    due.is("count(6)", x.count(6), 2);
    due.is("next()", x.next(), 1);
    due.is("close() again", x.close(), 1);
    due.is("raw()", x.raw(), 2);
    due.is("raw()", x.raw(), -5);
    due.is("count(3)", x.count(3), 1);
    due.is("raw()", x.raw(), -3);
    due.is("count(7)", x.count(7), 1);
    // All of its signs are gone through: raw() is answered by the line still.
    x = Due.reading("a", "b");
    x.endSign(-1);
    x.next();
    x.close();
    due.is("count(3)", x.count(3), 1);
    due.is("raw()", x.raw(), -5);
    due.is("count(3)", x.count(3), 1);
    due.is("raw()", x.raw(), -3);
    due.is("count(3)", x.count(3), 0);
    // A comment ends the line, and the level with it.
    x = Due.reading("a%", "b");
    x.open(Due.file(x, "1%", "2"));
    x.next();
    x.close();
    due.is("next()", x.next(), 1);
    due.token(x, 1, 0, 'a', 11, 0, 0, 0);
    due.is("count(3)", x.count(3), 1);
  }

  private static void closeBehindALine() {
    SignCategories x = Due.reading("a", "b");
    x.next();
    x.next();
    due.is("state()", x.state(), -1);
    due.is("close()", x.close(), 1);
    due.is("count(3)", x.count(3), 1);
    due.is("next()", x.next(), -3);
    due.is("count(3)", x.count(3), 0);
    due.is("count(7)", x.count(7), 1);
    // Behind its last line, which makes no difference; a line that comes then is not read.
    x = Due.reading("a");
    x.next();
    x.next();
    x.close();
    Due.line(x, 0, "b");
    due.is("raw()", x.raw(), -3);
  }

  private static void closeBeforeTheFirstLine() {
    SignCategories x = Due.reading("a");
    due.is("close()", x.close(), 1);
    due.is("count(3)", x.count(3), 1);
    due.is("raw()", x.raw(), -3);
    due.is("count(7)", x.count(7), 0);
    // A new level in its place is not to end.
    due.is("open(0)", x.open(0), 1);
    due.rest(x, "sign97/11@0 sign32/10@1");
  }

  private static void closeTheTopLevel() {
    SignCategories x = Due.reading("a", "b");
    int other = Due.file(x, "1", "2");
    x.next();
    x.open(other);
    x.close();
    due.is("count(3)", x.count(3), 2);
    // The one above it goes on, the one below it too.
    x.open(other);
    due.rest(x, "sign49/12@0 sign32/10@1 sign50/12@0 sign32/10@1 sign32/10@1 sign98/11@0 sign32/10@1");
    due.is("count(3)", x.count(3), 0);
  }

  private static void next() {
    due.sentence("next: its number, from 0 on", CallsEdgesTest::numbersOfTokens);
    due.sentence("next: -3 there is no level", CallsEdgesTest::nextWithoutLevels);
    due.sentence("next: -3 no level is left (lines and levels that gave nothing more are gone then)", CallsEdgesTest::nextWithNothingLeft);
    due.sentence("next: -4 it would be a 151st name", CallsEdgesTest::nameTooMuch);
    due.sentence("next: (state and place are as behind it all the same)", CallsEdgesTest::behindANameTooMuch);
    due.sentence("next: (and it is TOLD if it is long)", CallsEdgesTest::longNameTooMuch);
    due.sentence("next: -4 it would be a 151st name, behind what gave nothing", CallsEdgesTest::goneBeforeANameTooMuch);
  }

  private static void numbersOfTokens() {
    SignCategories x = Due.reading("a~\\n", "", "b");
    for (int i = 0; i < 4; i++) {
      due.is("next()", x.next(), i);
      due.is("count(0)", x.count(0), i + 1);
    }
    due.is("raw()", x.raw(), 4);
    due.is("next()", x.next(), 5);
    due.is("next()", x.next(), -3);
    x.open(0);
    due.is("next()", x.next(), 6);
  }

  private static void nextWithoutLevels() {
    Twins.refused(due, "next()", -3, x -> {
      Due.file(x, "a");
      x.group(true);
    }, SignCategories::next);
    Twins.refused(due, "next() behind all levels", -3, x -> {
      Due.file(x, "\\a%", "\u007f");
      x.open(0);
      x.next();
      x.close();
      x.next();
    }, SignCategories::next);
  }

  private static void nextWithNothingLeft() {
    SignCategories x = Due.reading("a", "%", "\u007f%", " \0%");
    x.next();
    x.open(Due.file(x, "%", "%"));
    x.open(x.file());
    x.next();
    due.token(x, 1, 0, 32, 10, 0, 0, 1);
    due.is("count(7)", x.count(7), 3);
    due.is("count(3)", x.count(3), 1);
    x.open(1);
    due.is("next()", x.next(), -3);
    due.is("count(7)", x.count(7), 8);
    due.is("count(3)", x.count(3), 0);
    due.is("count(5)", x.count(5), 1);
    due.told(x, 0, 1, 2, 127);
    due.is("state()", x.state(), -1);
    due.is("count(6)", x.count(6), 0);
    due.is("count(0)", x.count(0), 2);
    // The rest of a line, its state with it.
    x = Due.reading("a \0 ");
    x.endSign(-1);
    x.next();
    x.next();
    due.is("next()", x.next(), -3);
    due.is("state()", x.state(), -1);
    due.is("count(3)", x.count(3), 0);
  }

  private static void nameTooMuch() {
    SignCategories x = Due.withNames(149, "\\aa\\par\\b\\" + (char) 128 + "c");
    due.is("count(1)", x.count(1), 150);
    due.is("next() of the 151st", x.next(), -4);
    due.is("count(0)", x.count(0), 149);
    due.is("count(1)", x.count(1), 150);
    due.is("name(150, 0)", x.name(150, 0), -1);
    due.noToken(x, 149, 0);
    due.is("next() of PAR", x.next(), 149);
    due.token(x, 149, 1, 0, 0, 0, 3, 3);
    due.is("next() of another 151st", x.next(), -4);
    due.is("next() of a name that there is", x.next(), 150);
    due.token(x, 150, 1, 1, 0, 0, 3, 9);
    due.is("next()", x.next(), 151);
    due.is("check()", x.check(), 1);
    // The end of a line gives PAR all the same.
    x.endSign(13);
    x.line(0);
    due.is("next() of an empty line", x.next(), 152);
    due.token(x, 152, 1, 0, 0, 0, 4, 0);
  }

  private static void behindANameTooMuch() {
    SignCategories x = Due.withNames(149, "\\aa b\\] \\  \\");
    due.is("next() of letters", x.next(), -4);
    due.is("state()", x.state(), 2);
    due.is("count(6)", x.count(6), 9);
    due.is("next()", x.next(), 149);
    due.token(x, 149, 0, 'b', 11, 0, 3, 4);
    due.is("next() of another sign", x.next(), -4);
    due.is("state()", x.state(), 1);
    due.is("count(6)", x.count(6), 5);
    due.is("next() of a blank", x.next(), 150);
    due.is("next() of a blank as a name", x.next(), -4);
    due.is("state()", x.state(), 2);
    due.is("count(6)", x.count(6), 2);
    due.is("next() of the empty name", x.next(), -4);
    due.is("state()", x.state(), 1);
    due.is("count(6)", x.count(6), 0);
    due.is("count(3)", x.count(3), 1);
    due.is("next()", x.next(), -3);
    due.is("count(3)", x.count(3), 0);
    due.is("count(5)", x.count(5), 0);
  }

  private static void longNameTooMuch() {
    SignCategories x = Due.withNames(149, "\\" + FORTY + "\\" + FORTY + "x.");
    due.is("next() of 40 signs", x.next(), -4);
    due.is("count(5)", x.count(5), 0);
    due.is("count(6)", x.count(6), 43);
    due.is("next() of 41 signs", x.next(), -4);
    due.is("count(5)", x.count(5), 1);
    due.told(x, 0, 3, 149, 0);
    due.is("state()", x.state(), 2);
    due.is("count(6)", x.count(6), 1);
    // A long name that there is already is told, too.
    x = Due.withNames(148, "\\" + FORTY + "\\" + FORTY + "x\\" + FORTY.substring(1) + "y");
    due.is("next() of the 150th", x.next(), 148);
    due.is("next() of its 41 signs", x.next(), 149);
    due.token(x, 149, 1, 149, 0, 0, 3, 41);
    due.told(x, 0, 3, 149, 0);
    due.is("next() of the 151st, of 40 signs", x.next(), -4);
    due.is("count(5)", x.count(5), 1);
  }

  private static void goneBeforeANameTooMuch() {
    SignCategories x = Due.withNames(149, "\u007f%", " \u007f\\aa");
    x.open(x.file());
    due.is("next()", x.next(), -4);
    due.is("count(7)", x.count(7), 5);
    due.is("count(3)", x.count(3), 1);
    due.is("count(5)", x.count(5), 2);
    due.told(x, 0, 1, 149, 127);
    due.told(x, 1, 1, 149, 127);
    due.is("state()", x.state(), 2);
  }

  private static void raw() {
    due.sentence("raw: The next sign as it stands, whatever its category, as a token of category 12", CallsEdgesTest::asItStands);
    due.sentence("raw: the state stays", CallsEdgesTest::stateStays);
    due.sentence("raw: in the line at hand (begun, if need be)", CallsEdgesTest::begunByRaw);
    due.sentence("raw: NONE, -5, and the line is over, when nothing stands there", CallsEdgesTest::nothingStandsThere);
    due.sentence("raw: (in a line that it began, too)", CallsEdgesTest::nothingInALineThatItBegan);
    due.sentence("raw: -3 at once", CallsEdgesTest::rawWithoutLevels);
    due.sentence("raw: and -3, likewise", CallsEdgesTest::rawWithNothingLeft);
  }

  private static void asItStands() {
    for (int category = 0; category < 16; category++) {
      SignCategories x = Due.reading("!!!A");
      x.category('!', category, false);
      due.is("raw()", x.raw(), 0);
      due.token(x, 0, 0, '!', 12, 0, 0, 0);
      due.is("raw()", x.raw(), 1);
      due.token(x, 1, 0, '!', 12, 0, 0, 1);
      due.is("count(6)", x.count(6), 3);
      due.is("count(5)", x.count(5), 0);
    }
    SignCategories x = Due.reading("^^41 \0\u007f\u00ff");
    x.endSign('^');
    int[] signs = {'^', '^', '4', '1', ' ', 0, 127, 255, '^'};
    for (int i = 0; i < signs.length; i++) {
      due.is("raw()", x.raw(), i);
      due.token(x, i, 0, signs[i], 12, 0, 0, i);
    }
    due.is("raw()", x.raw(), -5);
    // From the middle of what would be one sign.
    x = Due.reading("^^^41");
    x.raw();
    x.next();
    due.token(x, 1, 0, 'A', 11, 0, 0, 1);
  }

  private static void stateStays() {
    SignCategories x = Due.reading("b\\ a bc", "%\\~a\r\0z");
    x.raw();
    due.is("state() 0", x.state(), 0);
    x.next();
    due.is("state() behind a blank as a name", x.state(), 2);
    x.raw();
    due.is("state() 2", x.state(), 2);
    due.is("next()", x.next(), 3);
    due.token(x, 3, 0, 'b', 11, 0, 0, 5);
    x.raw();
    due.is("state() 1", x.state(), 1);
    due.is("next() of the end", x.next(), 5);
    due.token(x, 5, 0, 32, 10, 0, 0, 7);
    for (int i = 0; i < 6; i++) {
      due.is("raw()", x.raw(), 6 + i);
      due.is("state() 0", x.state(), 0);
    }
  }

  private static void begunByRaw() {
    SignCategories x = Due.reading(" a  ", "b");
    due.is("raw()", x.raw(), 0);
    due.token(x, 0, 0, 32, 12, 0, 0, 0);
    due.is("count(7)", x.count(7), 1);
    due.is("count(6)", x.count(6), 2);
    due.is("next()", x.next(), 1);
    due.is("next()", x.next(), 2);
    due.is("raw()", x.raw(), 3);
    due.token(x, 3, 0, 'b', 12, 0, 1, 0);
    due.is("count(7)", x.count(7), 2);
    due.is("state()", x.state(), 0);
  }

  private static void nothingStandsThere() {
    SignCategories x = Due.reading("a", "b");
    x.endSign(-1);
    x.next();
    due.is("state()", x.state(), 1);
    due.is("raw()", x.raw(), -5);
    due.is("state()", x.state(), -1);
    due.is("count(0)", x.count(0), 1);
    due.is("count(7)", x.count(7), 1);
    due.is("count(3)", x.count(3), 1);
    due.is("raw()", x.raw(), 1);
    due.token(x, 1, 0, 'b', 12, 0, 1, 0);
    due.is("raw() behind a raw sign", x.raw(), -5);
    due.is("count(3) behind the last line", x.count(3), 1);
    due.is("raw()", x.raw(), -3);
    // A line that an end or a comment has ended is over: the next one is begun.
    x = Due.reading("a!b", "c%", "d");
    x.category('!', 5, false);
    x.next();
    x.next();
    due.is("raw()", x.raw(), 2);
    due.token(x, 2, 0, 'c', 12, 0, 1, 0);
    due.is("next()", x.next(), 3);
    due.token(x, 3, 0, 'd', 11, 0, 2, 0);
    // Behind a name, and behind one that ends with the line.
    x = Due.reading("\\ab");
    x.endSign(-1);
    x.next();
    due.is("raw()", x.raw(), -5);
  }

  private static void nothingInALineThatItBegan() {
    SignCategories x = Due.reading("", "   ", "a");
    x.endSign(-1);
    due.is("raw()", x.raw(), -5);
    due.is("count(7)", x.count(7), 1);
    due.is("state()", x.state(), -1);
    due.is("count(6)", x.count(6), 0);
    due.is("raw() in a line of blanks", x.raw(), -5);
    due.is("count(7)", x.count(7), 2);
    due.is("raw()", x.raw(), 0);
    due.token(x, 0, 0, 'a', 12, 0, 2, 0);
    // In a level below.
    x = Due.reading("");
    x.endSign(-1);
    x.open(x.file());
    due.is("raw()", x.raw(), -5);
    due.is("count(3)", x.count(3), 1);
    due.is("raw()", x.raw(), -3);
    // With an end sign, something stands there.
    x = Due.reading("");
    due.is("raw()", x.raw(), 0);
    due.token(x, 0, 0, 13, 12, 0, 0, 0);
  }

  private static void rawWithoutLevels() {
    Twins.refused(due, "raw()", -3, x -> {
      Due.file(x, "a");
      x.group(true);
    }, SignCategories::raw);
    Twins.refused(due, "raw() behind all levels", -3, x -> {
      Due.file(x, "a", "b");
      x.open(0);
      x.next();
      x.next();
      x.close();
      x.raw();
    }, SignCategories::raw);
  }

  private static void rawWithNothingLeft() {
    SignCategories x = new SignCategories();
    int empty = x.file();
    x.open(empty);
    x.open(empty);
    x.open(Due.file(x, "a"));
    x.close();
    due.is("count(3)", x.count(3), 3);
    due.is("raw()", x.raw(), -3);
    due.is("count(3)", x.count(3), 0);
    due.is("count(7)", x.count(7), 0);
    due.is("count(0)", x.count(0), 0);
  }

  private static void looks() {
    due.sentence("token: ArrayIndexOutOfBounds: there is no such token or what", CallsEdgesTest::noSuchToken);
    due.sentence("token: its category (2; 0 of names), the place in it where its first sign is (5)", CallsEdgesTest::partsOfTokens);
    due.sentence("name: -1 when there is none such, or no such name", CallsEdgesTest::noSuchName);
    due.sentence("told: What was TOLD, i from 0 (the first 100)", CallsEdgesTest::theFirst100);
    due.sentence("told: -1 when there is none such", CallsEdgesTest::noneSuchTold);
    due.sentence("told: how many tokens there were before the one that it is told with", CallsEdgesTest::tokensBefore);
    due.sentence("categoryOf: -2 no such sign", CallsEdgesTest::noSuchSign);
    due.sentence("state: -1 when there is none", CallsEdgesTest::noLineAtHand);
    due.sentence("state: over by category 5 or 14 at once", CallsEdgesTest::overAtOnce);
    due.sentence("state: all signs are gone through, when the next token is asked for", CallsEdgesTest::overWhenAskedFor);
    due.sentence("count: -2 for others", CallsEdgesTest::countOthers);
    due.sentence("count: levels (3; until a token is asked for behind its line)", CallsEdgesTest::countLevels);
    due.sentence("count: what was TOLD (5)", CallsEdgesTest::countTold);
    due.sentence("count: signs of the line at hand that are not gone through (6)", CallsEdgesTest::countSigns);
    due.sentence("count: lines begun in all (7)", CallsEdgesTest::countLinesBegun);
    due.sentence("next, raw: -4 there are 600 tokens already (both at once: nothing is gone through)", CallsEdgesTest::sixHundredTokens);
    due.sentence("check: no two names are the same, and each token's name is there: 1", CallsEdgesTest::checkHolds);
  }

  private static void noSuchToken() {
    SignCategories x = Due.reading("ab");
    due.noToken(x, 0, 0);
    due.noToken(x, -1, 0);
    x.next();
    due.is("token(0, 0)", Due.part(x, 0, 0), 0);
    due.is("token(0, 5)", Due.part(x, 0, 5), 0);
    due.noToken(x, 1, 0);
    due.noToken(x, 1, 5);
    due.noToken(x, -1, 0);
    due.noToken(x, -1, 5);
    due.noToken(x, 0, -1);
    due.noToken(x, 0, 6);
    due.noToken(x, 1, -6);
    due.noToken(x, -1, 6);
    for (int far : new int[] {MIN, MAX, 600, 1 << 30}) {
      due.noToken(x, far, 0);
      due.noToken(x, 0, far);
    }
    x.next();
    due.is("token(1, 0)", Due.part(x, 1, 0), 0);
    due.noToken(x, 0, 6);
    due.noToken(x, 1, -1);
    due.noToken(x, 2, 0);
    // The very exception that the document names.
    try {
      x.token(2, 0);
      due.holds("token(2, 0) throws", false);
    } catch (RuntimeException e) {
      due.holds("token(2, 0) throws " + e, e.getClass() == ArrayIndexOutOfBoundsException.class);
    }
  }

  private static void partsOfTokens() {
    SignCategories x = new SignCategories();
    x.file();
    Due.file(x, "", "^^5cn^^41^^7e{", "");
    x.open(1);
    Due.rest(x);
    due.token(x, 0, 1, 0, 0, 1, 0, 0);
    due.token(x, 1, 1, 1, 0, 1, 1, 0);
    due.token(x, 2, 2, '~', 13, 1, 1, 9);
    due.token(x, 3, 0, '{', 1, 1, 1, 13);
    due.token(x, 4, 0, 32, 10, 1, 1, 14);
    due.token(x, 5, 1, 0, 0, 1, 2, 0);
    due.is("count(0)", x.count(0), 6);
  }

  private static void noSuchName() {
    SignCategories x = Due.reading("\\" + FORTY + "x\\\0\\");
    x.endSign(-1);
    due.is("name(0, -1)", x.name(0, -1), -1);
    due.is("name(0, 0)", x.name(0, 0), 112);
    due.is("name(0, 2)", x.name(0, 2), 114);
    due.is("name(0, 3)", x.name(0, 3), -1);
    due.is("name(1, 0) before there is one", x.name(1, 0), -1);
    due.is("name(-1, 0)", x.name(-1, 0), -1);
    Due.rest(x);
    due.is("name(1, 0)", x.name(1, 0), 'a');
    due.is("name(1, 39)", x.name(1, 39), 'j');
    due.is("name(1, 40)", x.name(1, 40), -1);
    due.is("name(1, -1)", x.name(1, -1), -1);
    due.is("name(2, 0)", x.name(2, 0), 0);
    due.is("name(2, 1)", x.name(2, 1), -1);
    due.is("name(3, 0)", x.name(3, 0), -1);
    due.is("name(4, 0)", x.name(4, 0), -1);
    for (int far : new int[] {MIN, MAX, 150, 1 << 30}) {
      due.is("name(" + far + ", 0)", x.name(far, 0), -1);
      due.is("name(0, " + far + ")", x.name(0, far), -1);
      due.is("name(1, " + far + ")", x.name(1, far), -1);
    }
    x = Due.withNames(149);
    due.is("name(149, 0)", x.name(149, 0), 33 + 148 - 128);
    due.is("name(149, 1)", x.name(149, 1), -1);
    due.is("name(150, 0)", x.name(150, 0), -1);
  }

  /** An object that was told 99 times of sign 127, and has three more of other signs in lines to come. */
  private static SignCategories toldNinetyNineTimes() {
    SignCategories x = Due.reading("\u007f".repeat(99), "\u0001", "\u0002", "~");
    x.category(1, 15, false);
    x.category(2, 15, false);
    x.endSign('!');
    due.is("next()", x.next(), 0);
    return x;
  }

  private static void theFirst100() {
    SignCategories x = toldNinetyNineTimes();
    due.told(x, 98, 1, 0, 127);
    due.is("told(99, 0)", x.told(99, 0), -1);
    x.next();
    due.told(x, 98, 1, 0, 127);
    due.told(x, 99, 1, 1, 1);
    due.is("told(100, 0)", x.told(100, 0), -1);
    x.next();
    x.next();
    due.told(x, 0, 1, 0, 127);
    due.told(x, 99, 1, 1, 1);
    for (int what = 0; what < 3; what++) {
      due.is("told(100, " + what + ")", x.told(100, what), -1);
      due.is("told(101, " + what + ")", x.told(101, what), -1);
    }
    due.is("the token that was told with it", Due.part(x, 3, 0), 2);
  }

  private static void noneSuchTold() {
    SignCategories x = Due.reading("\u007fa\u007fb");
    due.is("told(0, 0)", x.told(0, 0), -1);
    x.next();
    due.told(x, 0, 1, 0, 127);
    due.is("told(1, 0)", x.told(1, 0), -1);
    due.is("told(-1, 0)", x.told(-1, 0), -1);
    due.is("told(0, 3)", x.told(0, 3), -1);
    due.is("told(0, -1)", x.told(0, -1), -1);
    x.next();
    due.told(x, 1, 1, 1, 127);
    due.is("told(2, 0)", x.told(2, 0), -1);
    due.is("told(0, 3)", x.told(0, 3), -1);
    due.is("told(1, -1)", x.told(1, -1), -1);
    for (int far : new int[] {MIN, MAX, 100, 1 << 30}) {
      due.is("told(" + far + ", 0)", x.told(far, 0), -1);
      due.is("told(0, " + far + ")", x.told(0, far), -1);
    }
  }

  private static void tokensBefore() {
    SignCategories x = Due.reading("\u007f\u007fa~", "\\" + FORTY + "x\u007f");
    x.next();
    due.told(x, 0, 1, 0, 127);
    due.told(x, 1, 1, 0, 127);
    x.next();
    due.told(x, 2, 2, 1, '~');
    x.raw();
    x.next();
    due.told(x, 3, 3, 3, 0);
    due.is("next()", x.next(), -3);
    due.told(x, 4, 1, 4, 127);
    due.is("count(5)", x.count(5), 5);
  }

  private static void noSuchSign() {
    SignCategories x = new SignCategories();
    due.is("categoryOf(0)", x.categoryOf(0), 9);
    due.is("categoryOf(255)", x.categoryOf(255), 12);
    for (int wrong : new int[] {-1, 256, MIN, MAX}) {
      due.is("categoryOf(" + wrong + ")", x.categoryOf(wrong), -2);
    }
    x.category(0, 0, false);
    x.category(255, 15, false);
    due.is("categoryOf(0)", x.categoryOf(0), 0);
    due.is("categoryOf(255)", x.categoryOf(255), 15);
  }

  private static void noLineAtHand() {
    SignCategories x = new SignCategories();
    due.is("state() without levels", x.state(), -1);
    due.is("count(6) without levels", x.count(6), 0);
    Due.file(x, "ab");
    x.open(0);
    due.is("state() before the first line", x.state(), -1);
    due.is("count(6) before the first line", x.count(6), 0);
    x.next();
    due.is("state()", x.state(), 1);
    x.open(0);
    due.is("state() before the first line above", x.state(), -1);
    due.is("count(6) before the first line above", x.count(6), 0);
    x.next();
    x.next();
    x.next();
    due.is("state() behind the last line above", x.state(), -1);
    x.next();
    due.is("state() below", x.state(), 1);
    due.is("count(6) below", x.count(6), 1);
    x.next();
    due.is("next()", x.next(), -3);
    due.is("state() with no level left", x.state(), -1);
  }

  private static void overAtOnce() {
    SignCategories x = Due.reading("!bc", "a!bc", "\\a!bc", "d%bc", "e%bc");
    x.category('!', 5, false);
    due.is("next() in state 0", x.next(), 0);
    due.is("state()", x.state(), -1);
    due.is("count(6)", x.count(6), 0);
    x.next();
    due.is("next() in state 1", x.next(), 2);
    due.is("state()", x.state(), -1);
    due.is("count(6)", x.count(6), 0);
    x.next();
    due.is("next() in state 2", x.next(), 4);
    due.token(x, 4, 0, 'd', 11, 0, 3, 0);
    due.is("next() behind a comment", x.next(), 5);
    due.token(x, 5, 0, 'e', 11, 0, 4, 0);
    due.is("next() behind the last comment", x.next(), -3);
    due.is("state()", x.state(), -1);
    // A comment, and then a name that is too much: the line at hand is the name's.
    x = Due.withNames(149, "%ab", "\\zz");
    due.is("next()", x.next(), -4);
    due.is("state()", x.state(), 2);
    due.is("count(6)", x.count(6), 0);
    due.is("raw()", x.raw(), -5);
    due.is("raw()", x.raw(), -3);
  }

  private static void overWhenAskedFor() {
    SignCategories x = Due.reading("a", "\\b", " ", "c");
    x.endSign(-1);
    x.next();
    due.is("state()", x.state(), 1);
    due.is("count(6)", x.count(6), 0);
    due.is("count(7)", x.count(7), 1);
    x.next();
    due.is("state()", x.state(), 2);
    due.is("count(6)", x.count(6), 0);
    due.is("count(7)", x.count(7), 2);
    x.next();
    due.is("count(7)", x.count(7), 4);
    due.is("state()", x.state(), 1);
    due.is("next()", x.next(), -3);
    due.is("state()", x.state(), -1);
    // By raw signs.
    x = Due.reading("ab");
    x.endSign(-1);
    x.raw();
    x.raw();
    due.is("state()", x.state(), 0);
    due.is("count(6)", x.count(6), 0);
    due.is("next()", x.next(), -3);
    due.is("state()", x.state(), -1);
  }

  private static void countOthers() {
    SignCategories x = new SignCategories();
    busy(x);
    for (int wrong : new int[] {-1, 8, MIN, MAX}) {
      due.is("count(" + wrong + ")", x.count(wrong), -2);
    }
    due.is("count(0)", x.count(0), 2);
    due.is("count(7)", x.count(7), 1);
  }

  private static void countLevels() {
    SignCategories x = Due.reading("a", "b");
    due.is("count(3)", x.count(3), 1);
    x.open(Due.file(x, "1"));
    x.next();
    x.next();
    due.is("count(3) with no line more", x.count(3), 2);
    x.next();
    due.is("count(3) when a token was asked for", x.count(3), 1);
    x.close();
    due.is("count(3) with a line at hand", x.count(3), 1);
    x.next();
    due.is("count(3) behind its line", x.count(3), 1);
    x.next();
    due.is("count(3) when a token was asked for", x.count(3), 0);
    // A refusal at once, or a call that asks for no token, takes none away.
    x = new SignCategories();
    x.open(x.file());
    x.state();
    x.count(6);
    x.close();
    due.is("count(3)", x.count(3), 1);
  }

  private static void countTold() {
    SignCategories x = toldNinetyNineTimes();
    due.is("count(5)", x.count(5), 99);
    x.next();
    due.is("count(5)", x.count(5), 100);
    x.next();
    due.is("count(5)", x.count(5), 101);
    x.next();
    due.is("count(5)", x.count(5), 102);
  }

  private static void countSigns() {
    SignCategories x = Due.reading("a^^41\\bcd~  ", FULL);
    x.endSign('!');
    due.is("count(6)", x.count(6), 0);
    // Blanks at its end are not of the line; the end sign is.
    int[] left = {10, 6, 2, 1, 0};
    for (int i = 0; i < left.length; i++) {
      due.is("next()", x.next(), i);
      due.is("count(6) behind token " + i, x.count(6), left[i]);
    }
    x.next();
    due.is("count(6) of a full line", x.count(6), 120);
    x.raw();
    due.is("count(6) behind a raw sign", x.count(6), 119);
  }

  private static void countLinesBegun() {
    SignCategories x = Due.reading("a%", "%", "b%");
    x.next();
    due.is("count(7)", x.count(7), 1);
    x.open(0);
    x.next();
    due.is("count(7) of the same line in another level", x.count(7), 2);
    x.next();
    due.is("count(7)", x.count(7), 4);
    due.is("next()", x.next(), 3);
    due.is("count(7)", x.count(7), 6);
    due.is("next()", x.next(), -3);
    due.is("count(7)", x.count(7), 6);
    x.raw();
    due.is("count(7)", x.count(7), 6);
  }

  private static void checkHolds() {
    SignCategories x = Due.withNames(149, "\\zz\\" + FORTY + "x\\par");
    due.is("check()", x.check(), 1);
    Due.rest(x);
    due.is("check()", x.check(), 1);
    x = Due.reading("\\\0\\\0", "\\", "\\" + FORTY + "x\\" + FORTY + "y", "\\" + FORTY);
    x.category(0, 11, false);
    x.endSign(-1);
    due.is("check()", x.check(), 1);
    Due.rest(x);
    due.is("check()", x.check(), 1);
    due.is("count(1)", x.count(1), 4);
  }

  /** No run of 512 calls reaches this; answers behind them are free, so this looks no further than it must. */
  private static void sixHundredTokens() {
    SignCategories x = Due.reading(FULL, "\u007f%");
    x.endSign(-1);
    for (int i = 0; i < 600; i++) {
      if (i > 0 && i % 120 == 0) {
        x.open(0);
      }
      due.is("token " + i, i % 120 == 119 ? x.raw() : x.next(), i);
    }
    // All signs of the line at hand are gone through: neither is it over then, nor a line below begun.
    for (int again = 0; again < 2; again++) {
      due.is("next()", x.next(), -4);
      due.is("raw()", x.raw(), -4);
      due.is("count(0)", x.count(0), 600);
      due.is("state()", x.state(), 1);
      due.is("count(3)", x.count(3), 5);
      due.is("count(5)", x.count(5), 0);
      due.is("count(7)", x.count(7), 5);
    }
    due.token(x, 599, 0, 'h', 12, 0, 0, 119);
    due.noToken(x, 600, 0);
    // A level that has no line at all does not go, either.
    x.open(x.file());
    due.is("next()", x.next(), -4);
    due.is("raw()", x.raw(), -4);
    due.is("count(3)", x.count(3), 6);
  }
}
