/** For each promise of the document: ordinary inputs, the edges that it names, wrong inputs. */
public final class PromisesTest {
  private static final Due due = new Due();
  private static final int[] WRONG = {-1, Integer.MIN_VALUE, 256, Integer.MAX_VALUE};

  public static void main(String[] args) {
    promise1();
    promise2();
    promise3();
    promise4();
    promise5();
    promise6();
    promise7();
    promise8();
    promise9();
    promise10();
    promise11();
    promise11Names();
    promise11Signs();
    promise11Refusals();
    promise12();
    promise13();
    promise14();
    promise15();
    promise16();
    promise17();
    promise18();
    promise19();
    due.end("PromisesTest");
  }

  private static int firstCategory(int sign) {
    switch (sign) {
      case 92: return 0;
      case 123: return 1;
      case 125: return 2;
      case 13: return 5;
      case 94: return 7;
      case 0: return 9;
      case 32: return 10;
      case 126: return 13;
      case 37: return 14;
      case 127: return 15;
      default: return sign >= 65 && sign <= 90 || sign >= 97 && sign <= 122 ? 11 : 12;
    }
  }

  private static void promise1() {
    SignCategories x = new SignCategories();
    for (int sign = 0; sign < 256; sign++) {
      due.is("categoryOf(" + sign + ") at first", x.categoryOf(sign), firstCategory(sign));
    }
    for (int what = 0; what < 8; what++) {
      due.is("count(" + what + ") at first", x.count(what), what == 1 ? 1 : 0);
    }
    due.name(x, 0, "par");
    due.is("name(1, 0) at first", x.name(1, 0), -1);
    due.is("state() at first", x.state(), -1);
    due.is("told(0, 0) at first", x.told(0, 0), -1);
    // The end sign is 13: an empty line is this one alone, which gives PAR.
    x = Due.reading("");
    due.is("next()", x.next(), 0);
    due.token(x, 0, 1, 0, 0, 0, 0, 0);
    // No active sign has a meaning.
    x = new SignCategories();
    x.category(200, 13, false);
    x.open(Due.file(x, "~\u00c8"));
    due.rest(x, "active126/13@0 active200/13@1 sign32/10@2");
    due.is("count(5)", x.count(5), 2);
    // Two objects share nothing.
    SignCategories y = new SignCategories();
    due.is("y.categoryOf(200)", y.categoryOf(200), 12);
    due.is("y.count(2)", y.count(2), 0);
  }

  private static void promise2() {
    SignCategories x = new SignCategories();
    due.is("category(0, 15, false)", x.category(0, 15, false), 1);
    due.is("category(255, 0, true)", x.category(255, 0, true), 1);
    due.is("categoryOf(0)", x.categoryOf(0), 15);
    due.is("categoryOf(255)", x.categoryOf(255), 0);
    for (int wrong : WRONG) {
      due.is("category(" + wrong + ", 0, false)", x.category(wrong, 0, false), -2);
      due.is("category(" + wrong + ", 0, true)", x.category(wrong, 0, true), -2);
      due.is("category(0, " + wrong + ", true)", x.category(0, wrong, true), -2);
      due.is("category(0, " + wrong + ", false)", x.category(0, wrong, false), -2);
    }
    due.is("category(0, 16, false)", x.category(0, 16, false), -2);
    due.is("categoryOf(0) as before", x.categoryOf(0), 15);
    // From now on: in the midst of a line.
    x = Due.reading("a1!1");
    x.next();
    x.category('1', 13, false);
    x.category('!', 0, false);
    x.next();
    due.token(x, 1, 2, '1', 13, 0, 0, 1);
    x.category('1', 11, false);
    x.next();
    due.token(x, 2, 1, 1, 0, 0, 0, 2);
    due.name(x, 1, "1");
    // Categories of which no more is asked.
    int[] plain = {1, 2, 3, 4, 6, 7, 8, 11, 12};
    for (int category : plain) {
      x = Due.reading("a  b");
      x.category('a', category, false);
      due.rest(x, "sign97/" + category + "@0 sign32/10@1 sign98/11@3 sign32/10@4");
    }
  }

  private static void promise3() {
    SignCategories x = new SignCategories();
    due.is("group(false) with none open", x.group(false), -3);
    x.category(1, 3, false);
    for (int i = 1; i <= 20; i++) {
      due.is("group(true)", x.group(true), i);
      due.is("count(4)", x.count(4), i);
      x.category(2, i % 16, false);
    }
    due.is("group(true) of the 21st", x.group(true), -4);
    due.is("count(4)", x.count(4), 20);
    for (int i = 19; i >= 0; i--) {
      due.is("group(false)", x.group(false), i);
      due.is("categoryOf(2) in group " + i, x.categoryOf(2), i == 0 ? 12 : i % 16);
      due.is("categoryOf(1) in group " + i, x.categoryOf(1), 3);
    }
    due.is("group(false) with none open any more", x.group(false), -3);
    // Global: before and behind a local one, and through two groups at once.
    x.group(true);
    x.group(true);
    x.category(5, 6, false);
    x.category(5, 7, true);
    x.category(6, 7, true);
    x.category(6, 8, false);
    due.is("categoryOf(5)", x.categoryOf(5), 7);
    due.is("categoryOf(6)", x.categoryOf(6), 8);
    x.group(false);
    due.is("categoryOf(5)", x.categoryOf(5), 7);
    due.is("categoryOf(6)", x.categoryOf(6), 7);
    x.category(5, 1, false);
    x.group(true);
    x.group(false);
    due.is("categoryOf(5), local", x.categoryOf(5), 1);
    x.group(false);
    due.is("categoryOf(5), global still", x.categoryOf(5), 7);
    due.is("categoryOf(6), global still", x.categoryOf(6), 7);
    // Global in the outer group, local in the inner one before it.
    x.group(true);
    x.category(9, 1, false);
    x.group(true);
    x.category(9, 2, true);
    x.group(false);
    due.is("categoryOf(9) in the outer group", x.categoryOf(9), 2);
    x.group(false);
    due.is("categoryOf(9) outside", x.categoryOf(9), 2);
    // Groups give back categories alone: a meaning stays, and the end sign.
    x.open(Due.file(x, "~"));
    x.group(true);
    x.meaning('~', true);
    x.endSign('E');
    x.group(false);
    due.rest(x, "active126/13@0 sign69/11@1");
    due.is("count(5)", x.count(5), 0);
  }

  private static void promise4() {
    SignCategories x = new SignCategories();
    due.is("endSign(-1)", x.endSign(-1), 1);
    due.is("endSign(255)", x.endSign(255), 1);
    due.is("endSign(0)", x.endSign(0), 1);
    due.is("endSign(-2)", x.endSign(-2), -2);
    due.is("endSign(256)", x.endSign(256), -2);
    due.is("endSign(min)", x.endSign(Integer.MIN_VALUE), -2);
    due.is("endSign(max)", x.endSign(Integer.MAX_VALUE), -2);
    // Refusals change nothing: it is 0, which is ignored.
    x.open(Due.file(x, "a", "b", "c", "d"));
    due.is("next()", x.next(), 0);
    due.is("count(6)", x.count(6), 1);
    due.is("endSign(33)", x.endSign('!'), 1);
    // The line at hand keeps its own end sign.
    due.rest(x, "sign98/11@0 sign33/12@1 sign99/11@0 sign33/12@1 sign100/11@0 sign33/12@1");
    x = Due.reading("  a  ", "", "   ", "b");
    x.endSign(-1);
    due.rest(x, "sign97/11@2 sign98/11@0");
    due.is("count(7)", x.count(7), 4);
    // The end sign may belong to a sign that is told, or to a name.
    due.rest(Due.reading("^^"), "sign77/11@0");
    due.rest(Due.reading("a\\"), "sign97/11@0 name1/0@1");
    x = Due.reading("\\");
    x.endSign('q');
    due.rest(x, "name1/0@0");
    due.name(x, 1, "q");
    // A blank as the end sign stays.
    x = Due.reading("a ");
    x.endSign(32);
    due.rest(x, "sign97/11@0 sign32/10@1");
    // All of a full line's signs and the end sign.
    String full = "abcdefgh".repeat(15);
    x = Due.reading(full);
    due.is("next()", x.next(), 0);
    due.is("count(6)", x.count(6), 120);
  }

  private static void promise5() {
    SignCategories x = Due.reading("~~~~");
    due.is("meaning(126, true)", x.meaning('~', true), 1);
    due.is("meaning(0, true)", x.meaning(0, true), 1);
    due.is("meaning(255, true)", x.meaning(255, true), 1);
    for (int wrong : WRONG) {
      due.is("meaning(" + wrong + ", true)", x.meaning(wrong, true), -2);
      due.is("meaning(" + wrong + ", false)", x.meaning(wrong, false), -2);
    }
    x.next();
    due.is("count(5) with a meaning", x.count(5), 0);
    x.meaning('~', false);
    x.next();
    due.is("count(5) without a meaning", x.count(5), 1);
    due.told(x, 0, 2, 1, '~');
    x.meaning('~', true);
    x.next();
    x.meaning('a', false);
    x.next();
    due.is("count(5)", x.count(5), 1);
    due.token(x, 3, 2, '~', 13, 0, 0, 3);
    // A meaning is of the sign, even while it is not active.
    x = Due.reading("a");
    x.meaning('a', true);
    x.category('a', 13, false);
    due.rest(x, "active97/13@0 sign32/10@1");
    due.is("count(5)", x.count(5), 0);
  }

  private static void promise6() {
    SignCategories x = new SignCategories();
    for (int i = 0; i < 8; i++) {
      due.is("file()", x.file(), i);
      due.is("count(2)", x.count(2), i + 1);
    }
    due.is("file() of the ninth", x.file(), -4);
    due.is("count(2)", x.count(2), 8);
    // Without lines: nothing is read, and nothing can be added.
    due.is("add(7, 65, 1)", x.add(7, 65, 1), -3);
    x.open(7);
    due.is("next()", x.next(), -3);
    due.is("count(7)", x.count(7), 0);
    // Each file has lines of its own.
    Due.line(x, 0, "a");
    Due.line(x, 7, "b");
    x.open(0);
    x.open(7);
    due.rest(x, "sign98/11@0 sign32/10@1 sign97/11@0 sign32/10@1");
  }

  private static void promise7() {
    SignCategories x = new SignCategories();
    due.is("line(0) without files", x.line(0), -1);
    x.file();
    x.file();
    for (int wrong : new int[] {-1, 2, 7, 8, Integer.MIN_VALUE, Integer.MAX_VALUE}) {
      due.is("line(" + wrong + ")", x.line(wrong), -1);
    }
    for (int i = 1; i <= 30; i++) {
      due.is("line(0)", x.line(0), i);
    }
    due.is("line(0) of the 31st", x.line(0), -4);
    due.is("line(1)", x.line(1), 1);
    x.open(0);
    for (int i = 0; i < 30; i++) {
      due.is("next()", x.next(), i);
      due.token(x, i, 1, 0, 0, 0, i, 0);
    }
    due.is("next()", x.next(), -3);
    due.is("count(7)", x.count(7), 30);
  }

  private static void promise8() {
    SignCategories x = new SignCategories();
    due.is("add(0, 0, 0) without files", x.add(0, 0, 0), -1);
    x.file();
    due.is("add(1, 0, 0)", x.add(1, 0, 0), -1);
    due.is("add(-1, 0, 9)", x.add(-1, 0, 9), -1);
    due.is("add(0, 0, 0)", x.add(0, 0, 0), -2);
    due.is("add(0, 0, 9)", x.add(0, 0, 9), -2);
    due.is("add(0, 0, min)", x.add(0, 0, Integer.MIN_VALUE), -2);
    due.is("add(0, 0, max)", x.add(0, 0, Integer.MAX_VALUE), -2);
    due.is("add(0, 0, 1) without lines", x.add(0, 0, 1), -3);
    x.line(0);
    due.is("add(0, .., 3)", x.add(0, 0x7172737475616263L, 3), 3);
    due.is("add(0, -1, 1)", x.add(0, -1, 1), 4);
    due.is("add(0, .., 8)", x.add(0, 0xfe01020304050680L, 8), 12);
    x.open(0);
    int[] signs = {'a', 'b', 'c', 255, 254, 1, 2, 3, 4, 5, 6, 128};
    for (int i = 0; i < signs.length; i++) {
      due.is("raw()", x.raw(), i);
      due.is("token(" + i + ", 1)", x.token(i, 1), signs[i]);
    }
    // Only the last line gets more; one that is begun does not.
    due.is("add(0, 'z', 1)", x.add(0, 'z', 1), 13);
    due.is("raw() of the end sign", x.raw(), 12);
    due.is("raw() behind it", x.raw(), -5);
    x.line(0);
    due.is("add(0, 'y', 1)", x.add(0, 'y', 1), 1);
    due.rest(x, "sign121/11@0 sign32/10@1");
    x.open(0);
    due.is("raw()", x.raw(), 15);
    due.is("count(6)", x.count(6), 13);
    // 120 signs are all that a line has; what does not fit whole is refused whole.
    x = new SignCategories();
    x.file();
    x.line(0);
    for (int i = 1; i <= 14; i++) {
      due.is("add(0, .., 8)", x.add(0, 0x6161616161616161L, 8), 8 * i);
    }
    due.is("add(0, .., 5)", x.add(0, 0x6161616161L, 5), 117);
    due.is("add(0, .., 4)", x.add(0, 0x61616161L, 4), -4);
    due.is("add(0, .., 8)", x.add(0, 0x61616161L, 8), -4);
    due.is("add(0, .., 0) beyond the room", x.add(0, 0, 0), -2);
    due.is("add(0, .., 3)", x.add(0, 0x626262L, 3), 120);
    due.is("add(0, .., 1)", x.add(0, 0x62, 1), -4);
    x.open(0);
    x.next();
    due.is("count(6)", x.count(6), 120);
    x.line(0);
    due.is("add(0, .., 1) to a new line", x.add(0, 0x62, 1), 1);
  }

  private static void promise9() {
    SignCategories x = new SignCategories();
    due.is("open(0) without files", x.open(0), -1);
    x.file();
    for (int wrong : new int[] {-1, 1, 8, Integer.MIN_VALUE, Integer.MAX_VALUE}) {
      due.is("open(" + wrong + ")", x.open(wrong), -1);
    }
    for (int i = 1; i <= 6; i++) {
      due.is("open(0)", x.open(0), i);
    }
    due.is("open(0) of the seventh", x.open(0), -4);
    due.is("open(1) of the seventh", x.open(1), -1);
    due.is("next()", x.next(), -3);
    due.is("count(3)", x.count(3), 0);
    due.is("open(0) again", x.open(0), 1);
    // Files within files: the one below goes on where it was, in its state.
    x = new SignCategories();
    int outer = Due.file(x, "ab  c", "d");
    int inner = Due.file(x, "1");
    x.open(outer);
    x.next();
    x.next();
    x.next();
    due.is("state()", x.state(), 2);
    due.is("open(1)", x.open(inner), 2);
    due.is("state() above, before its first line", x.state(), -1);
    due.is("count(6) above, before its first line", x.count(6), 0);
    x.next();
    due.token(x, 3, 0, '1', 12, 1, 0, 0);
    due.is("open(0) within", x.open(outer), 3);
    due.rest(x, "sign97/11@0 sign98/11@1 sign32/10@2 sign99/11@4 sign32/10@5 sign100/11@0 sign32/10@1"
        + " sign32/10@1 sign99/11@4 sign32/10@5 sign100/11@0 sign32/10@1");
    due.token(x, 12, 0, 'c', 11, 0, 0, 4);
    due.is("count(7)", x.count(7), 5);
    // A line that comes while the file is read is read, too.
    x = Due.reading("a");
    x.next();
    x.next();
    Due.line(x, 0, "b");
    due.rest(x, "sign98/11@0 sign32/10@1");
    Due.line(x, 0, "c");
    due.is("next() when the level is no more", x.next(), -3);
  }

  private static void promise10() {
    SignCategories x = new SignCategories();
    due.is("close() without levels", x.close(), -3);
    x = Due.reading("ab", "c");
    x.next();
    due.is("close()", x.close(), 1);
    due.is("close() again", x.close(), 1);
    due.is("count(3)", x.count(3), 1);
    due.rest(x, "sign98/11@1 sign32/10@2");
    due.is("count(3)", x.count(3), 0);
    due.is("count(7)", x.count(7), 1);
    due.is("close() when none is left", x.close(), -3);
    // Before the first line, and behind a line that is over.
    x = Due.reading("ab", "c");
    x.close();
    due.is("next()", x.next(), -3);
    due.is("count(7)", x.count(7), 0);
    x = Due.reading("a", "b");
    x.next();
    x.next();
    due.is("state()", x.state(), -1);
    due.is("close()", x.close(), 1);
    due.is("count(3)", x.count(3), 1);
    due.is("next()", x.next(), -3);
    // Only the top one is to end, and a new level does not inherit it.
    x = new SignCategories();
    Due.file(x, "a", "b");
    Due.file(x, "1", "2");
    x.open(0);
    x.next();
    x.open(1);
    x.next();
    x.close();
    due.is("open(1)", x.open(1), 3);
    due.rest(x, "sign49/12@0 sign32/10@1 sign50/12@0 sign32/10@1 sign32/10@1 sign32/10@1 sign98/11@0 sign32/10@1");
    x.open(1);
    x.next();
    x.close();
    Due.rest(x);
    x.open(1);
    due.rest(x, "sign49/12@0 sign32/10@1 sign50/12@0 sign32/10@1");
  }

  private static void promise11() {
    SignCategories x = Due.reading("  a  b ", "", "  ", "c%d", "%", "e");
    due.rest(x, "sign97/11@2 sign32/10@3 sign98/11@5 sign32/10@6 name0/0@0 name0/0@0 sign99/11@0 sign101/11@0 sign32/10@1");
    due.token(x, 5, 1, 0, 0, 0, 2, 0);
    due.token(x, 6, 0, 'c', 11, 0, 3, 0);
    due.token(x, 7, 0, 'e', 11, 0, 5, 0);
    due.is("count(7)", x.count(7), 6);
    // A blank of another sign gives sign 32; at the end of a line only signs 32 are left out.
    x = Due.reading("a\tb\t", "a-b");
    x.category(9, 10, false);
    x.category('-', 10, false);
    due.rest(x, "sign97/11@0 sign32/10@1 sign98/11@2 sign32/10@3 sign97/11@0 sign32/10@1 sign98/11@2 sign32/10@3");
    x = Due.reading("  a  ");
    x.category(32, 12, false);
    due.rest(x, "sign32/12@0 sign32/12@1 sign97/11@2 sign32/10@3");
    // The end, in all three states, in the midst of a line.
    x = Due.reading("E b", " aEb", "\\aEb", "  Eb", "a EE");
    x.category('E', 5, false);
    due.rest(x, "name0/0@0 sign97/11@1 sign32/10@2 name1/0@0 name0/0@2 sign97/11@0 sign32/10@1");
    // A line whose end sign is not of category 5.
    x = Due.reading("a", "", "b");
    x.category(13, 12, false);
    due.rest(x, "sign97/11@0 sign13/12@1 sign13/12@0 sign98/11@0 sign13/12@1");
    // Ignored and invalid signs leave the state as it is.
    x = Due.reading("\0 \0\u007f a\0 \u007f \0b");
    due.rest(x, "sign97/11@5 sign32/10@7 sign98/11@11 sign32/10@12");
    due.is("count(5)", x.count(5), 2);
    due.told(x, 0, 1, 0, 127);
    due.told(x, 1, 1, 2, 127);
    // Active signs.
    x = Due.reading("~ ~");
    due.is("next()", x.next(), 0);
    due.is("state()", x.state(), 1);
    due.rest(x, "sign32/10@1 active126/13@2 sign32/10@3");
    // What gives nothing more is gone, told or not.
    x = Due.reading("\u007f%", "\0%", " %");
    due.is("next()", x.next(), -3);
    due.is("count(3)", x.count(3), 0);
    due.is("count(7)", x.count(7), 3);
    due.told(x, 0, 1, 0, 127);
  }

  private static void promise11Names() {
    SignCategories x = Due.reading("\\ab c\\ab\\ba\\. x\\ y\\  z\\par\\aB");
    due.is("next()", x.next(), 0);
    due.is("state() behind letters", x.state(), 2);
    due.rest(x, "sign99/11@4 name1/0@5 name2/0@8 name3/0@11 sign32/10@13 sign120/11@14 name4/0@15 sign121/11@17"
        + " name4/0@18 sign122/11@21 name0/0@22 name5/0@26");
    due.name(x, 1, "ab");
    due.name(x, 2, "ba");
    due.name(x, 3, ".");
    due.name(x, 4, " ");
    due.name(x, 5, "aB");
    x = Due.reading("\\. \\ ");
    x.next();
    due.is("state() behind another sign", x.state(), 1);
    x.next();
    x.next();
    due.name(x, 2, "\r");
    due.is("state() behind the end sign as a name", x.state(), 1);
    x = Due.reading("\\ x");
    x.next();
    due.is("state() behind a blank", x.state(), 2);
    x = Due.reading("\\\0a");
    due.rest(x, "name1/0@0 sign97/11@2 sign32/10@3");
    due.name(x, 1, "\0");
    // The empty name.
    x = Due.reading("\\", "a\\", "\\");
    x.endSign(-1);
    x.next();
    due.is("state() behind the empty name", x.state(), 1);
    due.is("count(6)", x.count(6), 0);
    due.is("count(1)", x.count(1), 2);
    due.name(x, 1, "");
    due.rest(x, "sign97/11@0 name1/0@1 name1/0@0");
    due.is("count(1)", x.count(1), 2);
    // Signs of names are told, too; letters by their categories now.
    x = Due.reading("^^5ca^^62^^5e^63^^^");
    due.rest(x, "name1/0@0 sign30/12@16 sign32/10@19");
    due.name(x, 1, "abc");
    x = Due.reading("\\^^41^^2e\\^^20 x\\^^7f\\%");
    due.rest(x, "name1/0@0 sign46/12@5 name2/0@9 sign120/11@15 name3/0@16 name4/0@21 sign32/10@23");
    due.name(x, 1, "A");
    due.name(x, 2, " ");
    due.name(x, 3, "\u007f");
    due.name(x, 4, "%");
    due.is("count(5)", x.count(5), 0);
    x = Due.reading("\\a@b\\a@b");
    x.next();
    x.category('@', 11, false);
    due.rest(x, "sign64/11@2 sign98/11@3 name2/0@4");
    due.name(x, 2, "a@b");
    // Long names: 40 signs are not long, 41 are, and have their first 40.
    String forty = "abcdefghij".repeat(4);
    x = Due.reading("\\" + forty + "\\" + forty + "k", "\\" + forty + "lm!");
    due.rest(x, "name1/0@0 name1/0@41 name1/0@0 sign33/12@43 sign32/10@44");
    due.name(x, 1, forty);
    due.is("count(5)", x.count(5), 2);
    due.told(x, 0, 3, 1, 0);
    due.told(x, 1, 3, 2, 0);
    x = Due.reading("\\" + "z".repeat(119));
    x.next();
    due.name(x, 1, "z".repeat(40));
    due.told(x, 0, 3, 0, 0);
    due.is("count(6)", x.count(6), 1);
    due.is("state()", x.state(), 2);
  }

  private static void promise11Signs() {
    // Two digits 0 to 9 or a to f; else 64 more below 64, or 64 less.
    due.rest(Due.reading("^^41^^4g^^g4^^4A^^A4^^?^^@^^\u007f!"),
        "sign65/11@0 sign116/11@4 sign103/11@7 sign39/12@8 sign52/12@11 sign116/11@12 sign65/11@15 sign1/12@16"
            + " sign52/12@19 sign63/12@26 sign33/12@29 sign32/10@30");
    due.rest(Due.reading("^^00^^ff^^09^^af^^/0^^:0^^`0"),
        "sign255/12@4 sign9/12@8 sign175/12@12 sign111/11@16 sign48/12@19 sign122/11@20 sign48/12@23"
            + " sign32/10@24 sign48/12@27 sign32/10@28");
    due.rest(Due.reading("^^\u0080^^\u007f"), "sign94/7@0 sign94/7@1 sign128/12@2 sign63/12@3 sign32/10@6");
    due.rest(Due.reading("^^\0^^\1"), "sign64/12@0 sign65/11@3 sign32/10@6");
    // With too little behind it.
    SignCategories x = Due.reading("^", "^^", "^^4");
    x.endSign(-1);
    due.rest(x, "sign94/7@0 sign94/7@0 sign94/7@1 sign116/11@0");
    // Not the same one behind, or of another category.
    x = Due.reading("^_^41__41");
    x.category('_', 7, false);
    due.rest(x, "sign94/7@0 sign95/7@1 sign94/7@2 sign52/12@3 sign49/12@4 sign65/11@5 sign32/10@9");
    x = Due.reading("^^41");
    x.category('^', 8, false);
    due.rest(x, "sign94/8@0 sign94/8@1 sign52/12@2 sign49/12@3 sign32/10@4");
    // Told again and again; the place is the first sign's.
    due.rest(Due.reading("^^5e^5e^41x"), "sign65/11@0 sign120/11@10 sign32/10@11");
    x = Due.reading("^^5f_41^^5f^^5f41");
    x.category('_', 7, false);
    due.rest(x, "sign65/11@0 sign95/7@7 sign95/7@11 sign52/12@15 sign49/12@16 sign32/10@17");
    // A sign that is told acts by its own category.
    due.rest(Due.reading("a^^25b"), "sign97/11@0");
    due.rest(Due.reading("^^Mb"), "name0/0@0");
    due.rest(Due.reading("^^20^^20a^^20^^20b^^20"), "sign97/11@8 sign32/10@9 sign98/11@17 sign32/10@18");
    due.rest(Due.reading("^^7e^^7b^^7d"), "active126/13@0 sign123/1@4 sign125/2@8 sign32/10@12");
    x = Due.reading("^^7f^^?a");
    due.rest(x, "sign97/11@7 sign32/10@8");
    due.is("count(5)", x.count(5), 2);
    due.told(x, 0, 1, 0, 127);
    due.told(x, 1, 1, 0, 127);
  }

  /** 149 names of one sign each fill the room beside PAR; what stands behind them is in a line of its own. */
  private static SignCategories withAllNames(String behind) {
    StringBuilder signs = new StringBuilder();
    for (int k = 0; k < 149; k++) {
      signs.append('\\').append(oneSign(k));
    }
    SignCategories x = Due.reading(signs.substring(0, 120), signs.substring(120, 240), signs.substring(240) + "%", behind);
    x.endSign(-1);
    for (int k = 0; k < 149; k++) {
      due.is("next()", x.next(), k);
    }
    due.is("count(1)", x.count(1), 150);
    return x;
  }

  private static char oneSign(int k) {
    return (char) (k < 128 ? 128 + k : 33 + k - 128);
  }

  private static void promise11Refusals() {
    SignCategories x = new SignCategories();
    due.is("next() without levels", x.next(), -3);
    x.file();
    due.is("next() without levels, but a file", x.next(), -3);
    // The 151st name: state and place are behind it, and it is told if it is long.
    String forty = "abcdefghij".repeat(4);
    x = withAllNames("\\ab c\\par\\Ab\\" + forty + "\\" + forty + "kl .");
    due.is("next() of the 151st name", x.next(), -4);
    due.is("count(0)", x.count(0), 149);
    due.is("count(1)", x.count(1), 150);
    due.is("state()", x.state(), 2);
    due.is("count(6)", x.count(6), 95);
    due.is("name(150, 0)", x.name(150, 0), -1);
    due.noToken(x, 149, 0);
    due.is("next()", x.next(), 149);
    due.token(x, 149, 0, 'c', 11, 0, 3, 4);
    due.is("next() of a name that is there", x.next(), 150);
    due.token(x, 150, 1, 0, 0, 0, 3, 5);
    due.is("next()", x.next(), -4);
    due.is("next() of 40 signs", x.next(), -4);
    due.is("count(5)", x.count(5), 0);
    due.is("next() of 42 signs", x.next(), -4);
    due.is("count(5)", x.count(5), 1);
    due.told(x, 0, 3, 151, 0);
    due.is("state()", x.state(), 2);
    due.is("next()", x.next(), 151);
    due.token(x, 151, 0, '.', 12, 0, 3, 97);
    due.is("check()", x.check(), 1);
    x = withAllNames("\\]\\ \\");
    due.is("next()", x.next(), -4);
    due.is("state() behind another sign", x.state(), 1);
    due.is("next()", x.next(), -4);
    due.is("state() behind a blank", x.state(), 2);
    due.is("next() of the empty name", x.next(), -4);
    due.is("state() behind the empty name", x.state(), 1);
    due.is("next()", x.next(), -3);
    due.is("count(3)", x.count(3), 0);
  }

  private static void promise12() {
    SignCategories x = new SignCategories();
    due.is("raw() without levels", x.raw(), -3);
    Due.file(x, "\\^^%a ~", " b", "", "c");
    x.open(0);
    String signs = "\\^^%a ~\r";
    for (int i = 0; i < signs.length(); i++) {
      due.is("raw()", x.raw(), i);
      due.token(x, i, 0, signs.charAt(i), 12, 0, 0, i);
      due.is("state()", x.state(), 0);
      due.is("count(6)", x.count(6), signs.length() - 1 - i);
    }
    due.is("raw() behind the line", x.raw(), -5);
    due.is("state()", x.state(), -1);
    due.is("count(7)", x.count(7), 1);
    due.is("count(5)", x.count(5), 0);
    // A line is begun, if need be.
    due.is("raw()", x.raw(), 8);
    due.token(x, 8, 0, ' ', 12, 0, 1, 0);
    due.is("count(7)", x.count(7), 2);
    due.is("next()", x.next(), 9);
    due.is("state()", x.state(), 1);
    due.is("raw()", x.raw(), 10);
    due.token(x, 10, 0, 13, 12, 0, 1, 2);
    due.is("state() stays", x.state(), 1);
    // Nothing stands in a line that it begins, either.
    x.endSign(-1);
    due.is("raw()", x.raw(), -5);
    due.is("count(7)", x.count(7), 2);
    due.is("raw() in an empty line", x.raw(), -5);
    due.is("count(7)", x.count(7), 3);
    due.is("state()", x.state(), -1);
    due.is("raw()", x.raw(), 11);
    due.is("state()", x.state(), 0);
    due.is("raw()", x.raw(), -5);
    due.is("count(3)", x.count(3), 1);
    due.is("raw() with no level left", x.raw(), -3);
    due.is("count(3)", x.count(3), 0);
    due.is("raw() without levels", x.raw(), -3);
    // Behind a line that next() has gone through, and one that it has ended.
    x = Due.reading("a", "b");
    x.endSign(-1);
    x.next();
    due.is("state()", x.state(), 1);
    due.is("raw()", x.raw(), -5);
    x.endSign(13);
    x.next();
    x.next();
    due.is("raw()", x.raw(), -3);
    // Levels that have no line more are no more; the one below goes on, even where nothing stands.
    x = Due.reading("ab", "c");
    x.endSign(-1);
    int empty = x.file();
    x.next();
    x.open(empty);
    due.is("raw()", x.raw(), 1);
    due.token(x, 1, 0, 'b', 12, 0, 0, 1);
    due.is("state()", x.state(), 1);
    x.open(empty);
    due.is("raw()", x.raw(), -5);
    due.is("count(3)", x.count(3), 1);
    x.open(0);
    x.close();
    due.is("raw()", x.raw(), 2);
    due.token(x, 2, 0, 'c', 12, 0, 1, 0);
    // Sign 0 is a sign like all others.
    x = Due.reading("\0\u00ff");
    due.is("raw()", x.raw(), 0);
    due.token(x, 0, 0, 0, 12, 0, 0, 0);
    due.is("raw()", x.raw(), 1);
    due.token(x, 1, 0, 255, 12, 0, 0, 1);
    // The place of a raw sign does not disturb what is told from there on.
    x = Due.reading("^^^41");
    x.raw();
    due.rest(x, "sign65/11@1 sign32/10@5");
  }

  private static void promise13() {
    SignCategories x = new SignCategories();
    due.noToken(x, 0, 0);
    x.file();
    x.file();
    Due.file(x, "", "x^^41\\n~");
    x.open(2);
    Due.rest(x);
    due.token(x, 0, 1, 0, 0, 2, 0, 0);
    due.token(x, 1, 0, 'x', 11, 2, 1, 0);
    due.token(x, 2, 0, 'A', 11, 2, 1, 1);
    due.token(x, 3, 1, 1, 0, 2, 1, 5);
    due.token(x, 4, 2, '~', 13, 2, 1, 7);
    due.token(x, 5, 0, 32, 10, 2, 1, 8);
    due.is("count(0)", x.count(0), 6);
    for (int wrong : new int[] {-1, 6, 599, 600, 601, Integer.MIN_VALUE, Integer.MAX_VALUE}) {
      due.noToken(x, wrong, 0);
      due.noToken(x, wrong, 5);
    }
    for (int wrong : new int[] {-1, 6, 7, Integer.MIN_VALUE, Integer.MAX_VALUE}) {
      due.noToken(x, 0, wrong);
      due.noToken(x, 5, wrong);
      due.noToken(x, 6, wrong);
    }
  }

  private static void promise14() {
    SignCategories x = Due.reading("\\ab\\.\\par\\\u00ff\\");
    x.endSign(-1);
    Due.rest(x);
    due.is("count(1)", x.count(1), 5);
    due.name(x, 0, "par");
    due.name(x, 1, "ab");
    due.name(x, 2, ".");
    due.name(x, 3, "\u00ff");
    due.name(x, 4, "");
    for (int wrong : new int[] {-1, 5, 149, 150, Integer.MIN_VALUE, Integer.MAX_VALUE}) {
      due.is("name(" + wrong + ", 0)", x.name(wrong, 0), -1);
      due.is("name(0, " + (wrong < 0 ? wrong : wrong + 35) + ")", x.name(0, wrong < 0 ? wrong : wrong + 35), -1);
    }
    due.is("name(1, 2)", x.name(1, 2), -1);
    due.is("name(1, 40)", x.name(1, 40), -1);
    due.is("name(2, -39)", x.name(2, -39), -1);
  }

  private static void promise15() {
    SignCategories x = Due.reading("a\u007f~\\" + "n".repeat(41), "b\u0001");
    x.category(1, 15, false);
    Due.rest(x);
    due.is("count(5)", x.count(5), 4);
    due.told(x, 0, 1, 1, 127);
    due.told(x, 1, 2, 1, '~');
    due.told(x, 2, 3, 2, 0);
    due.told(x, 3, 1, 4, 1);
    for (int wrong : new int[] {-1, 4, 99, 100, Integer.MIN_VALUE, Integer.MAX_VALUE}) {
      due.is("told(" + wrong + ", 0)", x.told(wrong, 0), -1);
    }
    for (int wrong : new int[] {-1, 3, Integer.MIN_VALUE, Integer.MAX_VALUE}) {
      due.is("told(0, " + wrong + ")", x.told(0, wrong), -1);
      due.is("told(1, " + wrong + ")", x.told(1, wrong), -1);
    }
    // The first 100 are kept, all are counted.
    x = Due.reading("\u007f".repeat(60), "\u007f".repeat(60));
    due.is("next()", x.next(), 0);
    due.is("count(5)", x.count(5), 60);
    x.next();
    due.is("count(5)", x.count(5), 120);
    due.told(x, 59, 1, 0, 127);
    due.told(x, 60, 1, 1, 127);
    due.told(x, 99, 1, 1, 127);
    for (int what = 0; what < 3; what++) {
      due.is("told(100, " + what + ")", x.told(100, what), -1);
      due.is("told(119, " + what + ")", x.told(119, what), -1);
    }
  }

  private static void promise16() {
    SignCategories x = new SignCategories();
    due.is("categoryOf(0)", x.categoryOf(0), 9);
    due.is("categoryOf(255)", x.categoryOf(255), 12);
    for (int wrong : WRONG) {
      due.is("categoryOf(" + wrong + ")", x.categoryOf(wrong), -2);
    }
    x.category(255, 0, false);
    due.is("categoryOf(255)", x.categoryOf(255), 0);
    x.group(true);
    x.category(255, 1, false);
    due.is("categoryOf(255)", x.categoryOf(255), 1);
    x.group(false);
    due.is("categoryOf(255)", x.categoryOf(255), 0);
  }

  private static void promise17() {
    SignCategories x = new SignCategories();
    due.is("state() without levels", x.state(), -1);
    Due.file(x, "a b%", "c", "");
    x.open(0);
    due.is("state() before the first line", x.state(), -1);
    x.next();
    due.is("state() behind a letter", x.state(), 1);
    x.next();
    due.is("state() behind a blank", x.state(), 2);
    x.next();
    due.is("state() behind a letter", x.state(), 1);
    x.endSign(-1);
    x.next();
    due.is("state() when all signs are gone through", x.state(), 1);
    due.is("count(6)", x.count(6), 0);
    x.open(0);
    due.is("state() of a new level", x.state(), -1);
    x.close();
    due.is("next()", x.next(), -3);
    due.is("state() when no level is left", x.state(), -1);
    // Over at once by category 5, whatever the token.
    x = Due.reading("a", "", "\\b", "c");
    x.next();
    x.next();
    due.is("state() behind the end", x.state(), -1);
    x.next();
    due.is("state() behind PAR", x.state(), -1);
    x.next();
    due.is("state() behind a name", x.state(), 2);
    x.raw();
    due.is("state() behind a raw sign", x.state(), 2);
    x.raw();
    due.is("state() behind none", x.state(), -1);
    x.raw();
    due.is("state() of a new line", x.state(), 0);
  }

  private static void promise18() {
    SignCategories x = new SignCategories();
    for (int wrong : new int[] {-1, 8, Integer.MIN_VALUE, Integer.MAX_VALUE}) {
      due.is("count(" + wrong + ")", x.count(wrong), -2);
    }
    Due.file(x, "ab\\c~", "d");
    Due.file(x, "1");
    x.group(true);
    counts(x, 0, 1, 2, 0, 1, 0, 0, 0);
    x.open(0);
    counts(x, 0, 1, 2, 1, 1, 0, 0, 0);
    x.next();
    counts(x, 1, 1, 2, 1, 1, 0, 5, 1);
    x.next();
    x.next();
    counts(x, 3, 2, 2, 1, 1, 0, 2, 1);
    x.open(1);
    counts(x, 3, 2, 2, 2, 1, 0, 0, 1);
    x.next();
    counts(x, 4, 2, 2, 2, 1, 0, 1, 2);
    x.next();
    counts(x, 5, 2, 2, 2, 1, 0, 0, 2);
    x.close();
    counts(x, 5, 2, 2, 2, 1, 0, 0, 2);
    x.next();
    counts(x, 6, 2, 2, 1, 1, 1, 1, 2);
    x.next();
    counts(x, 7, 2, 2, 1, 1, 1, 0, 2);
    x.group(false);
    x.next();
    counts(x, 8, 2, 2, 1, 0, 1, 1, 3);
    x.next();
    counts(x, 9, 2, 2, 1, 0, 1, 0, 3);
    due.is("next()", x.next(), -3);
    counts(x, 9, 2, 2, 0, 0, 1, 0, 3);
    // A comment or an end leaves nothing at hand, whatever stands behind.
    x = Due.reading("a%bc", "dEfg");
    x.category('E', 5, false);
    x.next();
    due.is("count(6)", x.count(6), 4);
    x.next();
    due.is("count(6)", x.count(6), 4);
    x.next();
    due.is("count(6)", x.count(6), 0);
    due.is("count(3)", x.count(3), 1);
  }

  private static void counts(SignCategories x, int... want) {
    for (int what = 0; what < want.length; what++) {
      due.is("count(" + what + ")", x.count(what), want[what]);
    }
  }

  private static void promise19() {
    SignCategories x = new SignCategories();
    due.is("check()", x.check(), 1);
    String forty = "abcdefghij".repeat(4);
    Due.file(x, "\\a\\b\\a\\par\\ab\\", "\\" + forty + "1\\" + forty + "k1\\" + forty.substring(1));
    x.open(0);
    for (int i = x.next(); i >= 0; i = x.next()) {
      due.is("check()", x.check(), 1);
    }
    // What it says holds: all names differ, and each token's name is there.
    java.util.Set<String> texts = new java.util.HashSet<>();
    for (int a = 0; a < x.count(1); a++) {
      due.holds("name " + a + " differs from those before it", texts.add(text(x, a)));
    }
    for (int i = 0; i < x.count(0); i++) {
      due.holds("name of token " + i, x.token(i, 0) != 1 || x.token(i, 1) >= 0 && x.token(i, 1) < x.count(1));
    }
    due.is("count(1)", x.count(1), 7);
  }

  private static String text(SignCategories x, int name) {
    StringBuilder text = new StringBuilder();
    int sign = x.name(name, 0);
    for (int k = 1; sign >= 0 && k <= 41; k++) {
      text.append((char) sign);
      sign = x.name(name, k);
    }
    return text.toString();
  }
}
