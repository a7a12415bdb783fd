/** The document's "Terms": for each sentence that names an edge, a test of its own at that edge. */
public final class TermsEdgesTest {
  private static final Due due = new Due();
  private static final String FORTY = "abcdefghij".repeat(4);
  private static final String FULL = "abcdefgh".repeat(15);

  public static void main(String[] args) {
    signsAndCategories();
    filesAndLines();
    levels();
    linesBegun();
    signsTold();
    namesRead();
    otherTokens();
    namesAndGroups();
    due.end("TermsEdgesTest");
  }

  private static void signsAndCategories() {
    due.sentence("SIGNS are 0 .. 255", TermsEdgesTest::firstAndLastSign);
    due.sentence("65 .. 90 and 97 .. 122 11, all others 12", TermsEdgesTest::edgesOfTheLetters);
    due.sentence("At first sign 92 has 0, 123 1, 125 2, 13 5, 94 7, 0 9, 32 10, 126 13, 37 14, 127 15", TermsEdgesTest::signsOfTheirOwn);
    due.sentence("3, 4, 6, 8 (no more is asked of these)", TermsEdgesTest::categoriesOfWhichNoMoreIsAsked);
  }

  private static void firstAndLastSign() {
    SignCategories x = Due.reading("\0\u00ff");
    due.is("category(0, 11, false)", x.category(0, 11, false), 1);
    due.is("category(255, 13, false)", x.category(255, 13, false), 1);
    due.is("category(-1, 11, false)", x.category(-1, 11, false), -2);
    due.is("category(256, 11, false)", x.category(256, 11, false), -2);
    due.rest(x, "sign0/11@0 active255/13@1 sign32/10@2");
  }

  private static void edgesOfTheLetters() {
    SignCategories x = new SignCategories();
    int[] signs = {64, 65, 90, 91, 96, 97, 122};
    int[] categories = {12, 11, 11, 12, 12, 11, 11};
    for (int i = 0; i < signs.length; i++) {
      due.is("categoryOf(" + signs[i] + ")", x.categoryOf(signs[i]), categories[i]);
    }
  }

  private static void signsOfTheirOwn() {
    SignCategories x = new SignCategories();
    int[] signs = {92, 123, 125, 13, 94, 0, 32, 126, 37, 127};
    int[] categories = {0, 1, 2, 5, 7, 9, 10, 13, 14, 15};
    for (int i = 0; i < signs.length; i++) {
      due.is("categoryOf(" + signs[i] + ")", x.categoryOf(signs[i]), categories[i]);
    }
    for (int plain : new int[] {1, 12, 14, 31, 33, 36, 38, 91, 93, 95, 124, 128, 255}) {
      due.is("categoryOf(" + plain + ")", x.categoryOf(plain), 12);
    }
  }

  private static void categoriesOfWhichNoMoreIsAsked() {
    for (int category : new int[] {3, 4, 6, 8}) {
      SignCategories x = Due.reading("a^^41a");
      x.category('a', category, false);
      due.rest(x, "sign97/" + category + "@0 sign65/11@1 sign97/" + category + "@5 sign32/10@6");
    }
  }

  private static void filesAndLines() {
    due.sentence("FILES, at most 8, numbered from 0", TermsEdgesTest::eightFiles);
    due.sentence("LINES, at most 30", TermsEdgesTest::thirtyLines);
    due.sentence("each of at most 120 signs", TermsEdgesTest::hundredAndTwentySigns);
    due.sentence("each of at most 120 signs, by any n", TermsEdgesTest::roomForEachN);
    due.sentence("each of at most 120 signs, the last line of the last file", TermsEdgesTest::lastLineOfTheLastFile);
    due.sentence("each of at most 120 signs, those of other files as they were", TermsEdgesTest::otherFilesAsTheyWere);
  }

  private static void eightFiles() {
    SignCategories x = new SignCategories();
    for (int i = 0; i < 8; i++) {
      due.is("file()", x.file(), i);
    }
    due.is("file() of the ninth", x.file(), -4);
    due.is("line(0)", x.line(0), 1);
    due.is("line(7)", x.line(7), 1);
    due.is("line(8)", x.line(8), -1);
    due.is("count(2)", x.count(2), 8);
  }

  private static void thirtyLines() {
    SignCategories x = new SignCategories();
    x.file();
    x.file();
    for (int i = 1; i <= 30; i++) {
      due.is("line(0)", x.line(0), i);
    }
    due.is("line(0) of the 31st", x.line(0), -4);
    for (int i = 1; i <= 30; i++) {
      due.is("line(1)", x.line(1), i);
    }
    due.is("line(1) of the 31st", x.line(1), -4);
    Due.add(x, 0, "z");
    x.open(0);
    for (int i = 0; i < 29; i++) {
      x.next();
    }
    due.is("next() of the 30th line", x.next(), 29);
    due.token(x, 29, 0, 'z', 11, 0, 29, 0);
  }

  private static void hundredAndTwentySigns() {
    SignCategories x = Due.reading(FULL);
    due.is("add(0, 97, 1) of the 121st", x.add(0, 97, 1), -4);
    due.is("line(0)", x.line(0), 2);
    due.is("add(0, 98, 1) to the next line", x.add(0, 98, 1), 1);
    for (int place = 0; place < 120; place++) {
      due.is("raw()", x.raw(), place);
    }
    due.token(x, 119, 0, 'h', 12, 0, 0, 119);
    due.is("raw() of the end sign", x.raw(), 120);
    due.token(x, 120, 0, 13, 12, 0, 0, 120);
    due.is("raw()", x.raw(), -5);
    due.is("raw() in the next line", x.raw(), 121);
    due.token(x, 121, 0, 'b', 12, 0, 1, 0);
  }

  private static void roomForEachN() {
    for (int n = 1; n <= 8; n++) {
      SignCategories x = new SignCategories();
      Due.file(x, FULL.substring(0, 121 - n));
      due.is("add(0, 0, " + n + ") that would make it 121", x.add(0, 0, n), -4);
      x.line(0);
      Due.add(x, 0, FULL.substring(0, 120 - n));
      due.is("add(0, 0, " + n + ") that makes it 120", x.add(0, 0, n), 120);
    }
  }

  private static void lastLineOfTheLastFile() {
    SignCategories x = new SignCategories();
    for (int i = 0; i < 8; i++) {
      x.file();
    }
    for (int i = 0; i < 30; i++) {
      x.line(7);
    }
    Due.add(x, 7, FULL.substring(1) + "!");
    x.endSign(-1);
    x.open(7);
    for (int i = 0; i < 119; i++) {
      x.next();
    }
    due.is("next() of the very last sign", x.next(), 119);
    due.token(x, 119, 0, '!', 12, 7, 29, 119);
    due.is("next()", x.next(), -3);
    due.is("count(7)", x.count(7), 30);
  }

  private static void otherFilesAsTheyWere() {
    SignCategories x = new SignCategories();
    x.file();
    Due.file(x, "yz");
    for (int i = 0; i < 30; i++) {
      x.line(0);
    }
    Due.add(x, 0, FULL);
    due.is("add(0, .., 8) to a full line", x.add(0, -1L, 8), -4);
    x.open(1);
    due.rest(x, "sign121/11@0 sign122/11@1 sign32/10@2");
  }

  private static void levels() {
    due.sentence("LEVELS, at most 6", TermsEdgesTest::sixLevels);
    due.sentence("a file that is opened is a new level, above all others, before its first line", TermsEdgesTest::openedOnceMore);
    due.sentence("only the top one is read", TermsEdgesTest::onlyTheTopOne);
    due.sentence("If the file has no line more, the level is no more", TermsEdgesTest::noLineMore);
    due.sentence("or the level is to end, the level is no more", TermsEdgesTest::levelToEnd);
    due.sentence("the one below goes on where it was", TermsEdgesTest::theOneBelowGoesOn);
    due.sentence("the level is no more, the one below: six at once", TermsEdgesTest::sixLevelsGoAtOnce);
  }

  private static void sixLevels() {
    SignCategories x = new SignCategories();
    Due.file(x, "ab");
    for (int level = 1; level <= 6; level++) {
      due.is("open(0)", x.open(0), level);
      due.is("next()", x.next(), level - 1);
    }
    due.is("open(0) of the seventh", x.open(0), -4);
    due.is("count(3)", x.count(3), 6);
    for (int level = 6; level >= 1; level--) {
      int token = x.next();
      due.is("next() in level " + level, Due.part(x, token, 1), 'b');
      due.is("count(3)", x.count(3), level);
      due.is("next()", Due.part(x, x.next(), 1), 32);
    }
    due.is("next()", x.next(), -3);
    due.is("count(3)", x.count(3), 0);
    due.is("open(0)", x.open(0), 1);
  }

  private static void openedOnceMore() {
    SignCategories x = Due.reading("ab", "c");
    x.next();
    due.is("open(0)", x.open(0), 2);
    due.is("state()", x.state(), -1);
    due.is("count(6)", x.count(6), 0);
    due.rest(x, "sign97/11@0 sign98/11@1 sign32/10@2 sign99/11@0 sign32/10@1 sign98/11@1 sign32/10@2 sign99/11@0 sign32/10@1");
    due.is("count(7)", x.count(7), 4);
  }

  private static void onlyTheTopOne() {
    SignCategories x = Due.reading("ab");
    x.next();
    x.open(Due.file(x, "1"));
    due.is("next()", x.next(), 1);
    due.token(x, 1, 0, '1', 12, 1, 0, 0);
    due.is("raw()", x.raw(), 2);
    due.token(x, 2, 0, 13, 12, 1, 0, 1);
    due.is("raw() at the end of the top one's line", x.raw(), -5);
    due.is("raw() of the one below", x.raw(), 3);
    due.token(x, 3, 0, 'b', 12, 0, 0, 1);
  }

  private static void noLineMore() {
    SignCategories x = Due.reading("a");
    due.rest(x, "sign97/11@0 sign32/10@1");
    due.is("count(3)", x.count(3), 0);
    // A line that comes before the next token is asked for is one more.
    x = Due.reading("a");
    x.next();
    x.next();
    Due.line(x, 0, "b");
    due.is("next()", x.next(), 2);
    due.token(x, 2, 0, 'b', 11, 0, 1, 0);
    // One that comes behind is not read.
    x.next();
    due.is("next()", x.next(), -3);
    Due.line(x, 0, "c");
    due.is("next()", x.next(), -3);
    // A file without any line.
    x = new SignCategories();
    x.open(x.file());
    due.is("next()", x.next(), -3);
    due.is("count(3)", x.count(3), 0);
    due.is("count(7)", x.count(7), 0);
  }

  private static void levelToEnd() {
    SignCategories x = Due.reading("a", "b");
    x.next();
    x.close();
    due.rest(x, "sign32/10@1");
    due.is("count(3)", x.count(3), 0);
    due.is("count(7)", x.count(7), 1);
  }

  private static void theOneBelowGoesOn() {
    SignCategories x = Due.reading("a  b  c", "d");
    int other = Due.file(x, "1");
    x.next();
    x.next();
    // In its state 2, in the midst of its line: the second blank gives nothing.
    x.open(other);
    due.rest(x, "sign49/12@0 sign32/10@1 sign98/11@3 sign32/10@4 sign99/11@6 sign32/10@7 sign100/11@0 sign32/10@1");
    due.token(x, 4, 0, 'b', 11, 0, 0, 3);
    // All signs of its line are gone through, in state 1.
    x = Due.reading("a", "b");
    other = Due.file(x, "1");
    x.endSign(-1);
    x.next();
    x.open(other);
    x.next();
    due.is("raw() at the end above", x.raw(), -5);
    due.is("raw() at the end below", x.raw(), -5);
    due.is("raw() in its next line", x.raw(), 2);
    due.token(x, 2, 0, 'b', 12, 0, 1, 0);
    // Before its first line.
    x = Due.reading("a");
    x.open(Due.file(x, "1"));
    due.rest(x, "sign49/12@0 sign32/10@1 sign97/11@0 sign32/10@1");
  }

  private static void sixLevelsGoAtOnce() {
    SignCategories x = new SignCategories();
    int empty = x.file();
    int full = Due.file(x, "a", "b");
    x.open(full);
    x.next();
    x.open(empty);
    x.open(full);
    x.close();
    x.open(empty);
    x.open(empty);
    due.is("open(empty)", x.open(empty), 6);
    due.is("next()", x.next(), 1);
    due.token(x, 1, 0, 32, 10, 1, 0, 1);
    due.is("count(3)", x.count(3), 1);
    for (int level = 2; level <= 6; level++) {
      due.is("open(empty)", x.open(empty), level);
    }
    due.is("raw()", x.raw(), 2);
    due.token(x, 2, 0, 'b', 12, 1, 1, 0);
    due.is("count(3)", x.count(3), 1);
  }

  private static void linesBegun() {
    due.sentence("A LINE IS BEGUN, when a token is asked for", TermsEdgesTest::begunWhenATokenIsAskedFor);
    due.sentence("the level has none (any more)", TermsEdgesTest::begunWhenTheLevelHasNone);
    due.sentence("its file has one behind the last one that it began", TermsEdgesTest::oneBehindTheLast);
    due.sentence("without the blanks (signs 32) at its end", TermsEdgesTest::withoutBlanksAtItsEnd);
    due.sentence("without the blanks (signs 32) at its end: signs 32, not category 10", TermsEdgesTest::blanksAreSigns32);
    due.sentence("with the END SIGN, if that is 0 or more, behind", TermsEdgesTest::endSignOfZeroOrMore);
    due.sentence("with the END SIGN behind a line of 120 signs", TermsEdgesTest::endSignBehindAFullLine);
    due.sentence("its STATE is 0 then", TermsEdgesTest::stateIsZeroThen);
    due.sentence("(What is added to it later is not in it.)", TermsEdgesTest::whatIsAddedLater);
  }

  private static void begunWhenATokenIsAskedFor() {
    SignCategories x = Due.reading("a");
    due.is("count(7) before", x.count(7), 0);
    due.is("state() before", x.state(), -1);
    due.is("endSign('!')", x.endSign('!'), 1);
    Due.add(x, 0, "b");
    due.is("next()", x.next(), 0);
    due.is("count(7)", x.count(7), 1);
    x.endSign(-1);
    due.rest(x, "sign98/11@1 sign33/12@2");
    // raw() asks for one, too; the other calls do not.
    x = Due.reading("a");
    x.state();
    x.count(6);
    x.category('b', 3, true);
    due.is("count(7)", x.count(7), 0);
    due.is("raw()", x.raw(), 0);
    due.is("count(7)", x.count(7), 1);
  }

  private static void begunWhenTheLevelHasNone() {
    SignCategories x = Due.reading("ab", "c");
    x.next();
    x.next();
    due.is("count(6)", x.count(6), 1);
    x.next();
    due.is("count(7) when the line is over", x.count(7), 1);
    x.next();
    due.is("count(7) when the next token is asked for", x.count(7), 2);
    x = Due.reading("a", "b");
    x.endSign(-1);
    x.next();
    due.is("count(7) when all signs are gone through", x.count(7), 1);
    x.next();
    due.is("count(7) when the next token is asked for", x.count(7), 2);
  }

  private static void oneBehindTheLast() {
    SignCategories x = Due.reading("a", "b", "c");
    for (int line = 0; line < 3; line++) {
      due.is("next()", x.next(), 2 * line);
      due.token(x, 2 * line, 0, 'a' + line, 11, 0, line, 0);
      x.next();
    }
    x.line(0);
    due.is("next() of the line that came since", x.next(), 6);
    due.token(x, 6, 1, 0, 0, 0, 3, 0);
    // Each level goes through the file by itself.
    x.open(0);
    due.is("next()", x.next(), 7);
    due.token(x, 7, 0, 'a', 11, 0, 0, 0);
  }

  /** The signs of a line as they stand, once it is begun. */
  private static String standing(String line, int endSign) {
    SignCategories x = Due.reading(line);
    x.endSign(endSign);
    StringBuilder signs = new StringBuilder();
    for (int i = x.raw(); i >= 0 && i <= 121; i = x.raw()) {
      signs.append((char) Due.part(x, i, 1));
    }
    return signs.toString();
  }

  private static void withoutBlanksAtItsEnd() {
    String[][] lines = {{"a ", "a"}, {"a  ", "a"}, {" a", " a"}, {" a b  ", " a b"}, {" ", ""}, {"", ""}, {" ".repeat(120), ""},
        {" ".repeat(119) + "a", " ".repeat(119) + "a"}, {"a" + " ".repeat(119), "a"}};
    for (String[] line : lines) {
      due.holds("line <" + line[0] + "> is <" + line[1] + ">", standing(line[0], -1).equals(line[1]));
      due.holds("line <" + line[0] + "> is <" + line[1] + "> and '!'", standing(line[0], '!').equals(line[1] + "!"));
    }
    SignCategories x = Due.reading("   ");
    due.rest(x, "name0/0@0");
  }

  private static void blanksAreSigns32() {
    due.holds("signs 31 and 33 stay", standing("a\u001f!", -1).equals("a\u001f!"));
    due.holds("sign 160 stays", standing("a\u00a0", -1).equals("a\u00a0"));
    due.holds("sign 0 stays", standing("a\0", -1).equals("a\0"));
    due.holds("signs 32 before another go on standing", standing("a \t ", -1).equals("a \t"));
    SignCategories x = Due.reading("a\t", "a ", "b^^20 ");
    x.category('\t', 10, false);
    x.category(32, 12, false);
    due.rest(x, "sign97/11@0 sign32/10@1 sign97/11@0 sign32/10@1 sign98/11@0 sign32/12@1 sign32/10@5");
  }

  private static void endSignOfZeroOrMore() {
    due.holds("13 at first", standing("a", 13).equals("a\r"));
    due.holds("0", standing("a", 0).equals("a\0"));
    due.holds("1", standing("a", 1).equals("a\u0001"));
    due.holds("-1", standing("a", -1).equals("a"));
    due.holds("255", standing("a", 255).equals("a\u00ff"));
    due.holds("32", standing("a ", 32).equals("a "));
    due.holds("0 alone", standing("", 0).equals("\0"));
    due.holds("-1 alone", standing("", -1).equals(""));
  }

  private static void endSignBehindAFullLine() {
    due.holds("120 signs and one", standing(FULL, '!').equals(FULL + "!"));
    due.holds("120 signs", standing(FULL, -1).equals(FULL));
  }

  private static void stateIsZeroThen() {
    SignCategories x = Due.reading("a", "  b", "\\c", "", " d");
    x.endSign(-1);
    x.next();
    due.is("state() of the first line", x.state(), 1);
    due.is("raw() at its end", x.raw(), -5);
    due.is("raw()", x.raw(), 1);
    due.is("state() of the next line, behind one in state 1", x.state(), 0);
    due.rest(x, "sign98/11@2 name1/0@0 sign100/11@1");
    x = Due.reading("a ", "");
    due.rest(x, "sign97/11@0 sign32/10@1 name0/0@0");
    // Behind a level in another state.
    x = Due.reading("");
    x.open(Due.file(x, "\\a%"));
    due.rest(x, "name1/0@0 name0/0@0");
  }

  private static void whatIsAddedLater() {
    SignCategories x = Due.reading("ab");
    x.next();
    Due.add(x, 0, "cd");
    due.rest(x, "sign98/11@1 sign32/10@2");
    x.open(0);
    due.rest(x, "sign97/11@0 sign98/11@1 sign99/11@2 sign100/11@3 sign32/10@4");
    // Blanks at its end that are not at its end any more.
    x = Due.reading("a  ");
    x.next();
    Due.add(x, 0, "b");
    due.rest(x, "sign32/10@1");
    x.open(0);
    due.rest(x, "sign97/11@0 sign32/10@1 sign98/11@3 sign32/10@4");
    // All of its signs are gone through.
    x = Due.reading("a");
    x.endSign(-1);
    x.next();
    Due.add(x, 0, "b");
    due.is("count(6)", x.count(6), 0);
    due.is("raw()", x.raw(), -5);
    due.is("next()", x.next(), -3);
    // Another level has begun the line since, with more of it.
    x = Due.reading("ab");
    x.next();
    Due.add(x, 0, "c");
    x.open(0);
    due.rest(x, "sign97/11@0 sign98/11@1 sign99/11@2 sign32/10@3 sign98/11@1 sign32/10@2");
  }

  private static void signsTold() {
    due.sentence("if it is of category 7, the same one stands behind it", TermsEdgesTest::sameOneBehind);
    due.sentence("and a sign below 128 behind that", TermsEdgesTest::signBelow128);
    due.sentence("both digits 0 to 9 or a to f (48 .. 57, 97 .. 102)", TermsEdgesTest::edgesOfTheDigits);
    due.sentence("if that and the one behind it are both digits", TermsEdgesTest::bothDigits);
    due.sentence("the one of that number to the base 16 (four signs in all)", TermsEdgesTest::numberToTheBase16);
    due.sentence("the one with 64 more, if that is below 64, or 64 less", TermsEdgesTest::moreOrLess);
    due.sentence("what stands behind: nothing, at the line's end", TermsEdgesTest::toldAtTheEnd);
    due.sentence("Of the sign that is told so the same holds: it may be of category 7, too", TermsEdgesTest::toldAgain);
    due.sentence("A sign that is told again: its edges", TermsEdgesTest::edgesOfToldAgain);
    due.sentence("if it is of category 7: now", TermsEdgesTest::markNow);
  }

  private static void sameOneBehind() {
    SignCategories x = Due.reading("^_A_^A^A^^A__A");
    x.category('_', 7, false);
    x.endSign(-1);
    due.rest(x, "sign94/7@0 sign95/7@1 sign65/11@2 sign95/7@3 sign94/7@4 sign65/11@5 sign94/7@6 sign65/11@7"
        + " sign1/12@8 sign1/12@11");
    for (int category : new int[] {6, 8, 3, 12}) {
      x = Due.reading("^^A");
      x.category('^', category, false);
      due.rest(x, "sign94/" + category + "@0 sign94/" + category + "@1 sign65/11@2 sign32/10@3");
    }
  }

  private static void signBelow128() {
    SignCategories x = Due.reading("^^\u007f^^\u0080^^\u00ff");
    x.endSign(-1);
    due.rest(x, "sign63/12@0 sign94/7@3 sign94/7@4 sign128/12@5 sign94/7@6 sign94/7@7 sign255/12@8");
    x = Due.reading("^^\0");
    x.endSign(-1);
    due.rest(x, "sign64/12@0");
  }

  private static void edgesOfTheDigits() {
    // Beside a digit: '/' and ':' are no digits, nor '`' and 'g', nor 'A' and 'F'.
    int[] digits = {'0', '9', 'a', 'f'};
    int[] values = {0, 9, 10, 15};
    for (int i = 0; i < digits.length; i++) {
      SignCategories x = Due.reading("^^" + (char) digits[i] + "1^^2" + (char) digits[i]);
      for (int told : new int[] {16 * values[i] + 1, 32 + values[i]}) {
        x.category(told, 12, false);
      }
      x.endSign(-1);
      due.rest(x, "sign" + (16 * values[i] + 1) + "/12@0 sign" + (32 + values[i]) + "/12@4");
    }
    for (char none : new char[] {'/', ':', '`', 'g', 'A', 'F', '@', 'G'}) {
      SignCategories x = Due.reading("^^2" + none, "^^" + none + "2");
      x.endSign(-1);
      x.category(none < 64 ? none + 64 : none - 64, 12, false);
      int category = x.categoryOf(none);
      due.rest(x, "sign114/11@0 sign" + (int) none + "/" + category + "@3"
          + " sign" + (none < 64 ? none + 64 : none - 64) + "/12@0 sign50/12@3");
    }
  }

  private static void bothDigits() {
    SignCategories x = Due.reading("^^4z^^z4^^44");
    x.endSign(-1);
    due.rest(x, "sign116/11@0 sign122/11@3 sign58/12@4 sign52/12@7 sign68/11@8");
    // The end sign stands behind, too: it is a digit, or none.
    x = Due.reading("^^4");
    x.endSign('a');
    due.rest(x, "sign74/11@0");
    x = Due.reading("^^4");
    due.rest(x, "sign116/11@0 sign32/10@3");
  }

  private static void numberToTheBase16() {
    SignCategories x = Due.reading("^^00^^ff^^7f^^80^^10^^0fz");
    x.category(0, 12, false);
    x.category(127, 12, false);
    due.rest(x, "sign0/12@0 sign255/12@4 sign127/12@8 sign128/12@12 sign16/12@16 sign15/12@20 sign122/11@24 sign32/10@25");
  }

  private static void moreOrLess() {
    SignCategories x = Due.reading("^^?^^@^^\0^^\u007f^^A^^!");
    x.category(127, 12, false);
    x.category(0, 12, false);
    x.endSign(-1);
    due.rest(x, "sign127/12@0 sign0/12@3 sign64/12@6 sign63/12@9 sign1/12@12 sign97/11@15");
  }

  private static void toldAtTheEnd() {
    SignCategories x = Due.reading("^", "^^", "^^!", "^^4", "^^41");
    x.endSign(-1);
    due.rest(x, "sign94/7@0 sign94/7@0 sign94/7@1 sign97/11@0 sign116/11@0 sign65/11@0");
    // The end sign tells, too, if it is below 128; it may be the second mark.
    due.rest(Due.reading("^^"), "sign77/11@0");
    x = Due.reading("^^");
    x.endSign(128);
    due.rest(x, "sign94/7@0 sign94/7@1 sign128/12@2");
    x = Due.reading("^", "^^");
    x.endSign('^');
    due.rest(x, "sign94/7@0 sign94/7@1 sign30/12@0");
    // What stood in a longer line before is not behind it.
    x = Due.reading("1a2b3c4d5e6f", "\\", "^", "\\a", "^^", "^^4", "^^5e^");
    x.endSign(-1);
    for (int i = 0; i < 12; i++) {
      x.next();
    }
    due.rest(x, "name1/0@0 sign94/7@0 name2/0@0 sign94/7@0 sign94/7@1 sign116/11@0 sign94/7@0 sign94/7@4");
    due.name(x, 1, "");
    due.name(x, 2, "a");
    // What stands in the next line is not behind it.
    x = Due.reading("^", "^A", "^^", "A");
    x.endSign(-1);
    due.rest(x, "sign94/7@0 sign94/7@0 sign65/11@1 sign94/7@0 sign94/7@1 sign65/11@0");
    // The very end of a full line.
    x = Due.reading(FULL.substring(4) + "^^5a");
    x.endSign(-1);
    for (int i = 0; i < 116; i++) {
      x.next();
    }
    due.is("next()", x.next(), 116);
    due.token(x, 116, 0, 'Z', 11, 0, 0, 116);
    due.is("count(6)", x.count(6), 0);
  }

  private static void toldAgain() {
    // By a number, by 64 less (30 + 64), and from one mark to another.
    due.rest(Due.reading("^^5e^41x"), "sign65/11@0 sign120/11@7 sign32/10@8");
    due.rest(Due.reading("^^\u001e^41x"), "sign65/11@0 sign120/11@6 sign32/10@7");
    SignCategories x = Due.reading("^^5f_41^^\u001f_Ax");
    x.category('_', 7, false);
    due.rest(x, "sign65/11@0 sign1/12@7 sign120/11@12 sign32/10@13");
    due.rest(Due.reading("^^5e^5e^5e^41x"), "sign65/11@0 sign120/11@13 sign32/10@14");
    due.rest(Due.reading("\\^^5e^41^^5e^^42."), "name1/0@0 sign30/12@8 sign52/12@14 sign50/12@15 sign46/12@16 sign32/10@17");
    // As often as a line has room for.
    x = Due.reading("^^5e" + "^5e".repeat(37) + "^41!?");
    due.is("next()", x.next(), 0);
    due.token(x, 0, 0, 'A', 11, 0, 0, 0);
    due.is("count(6)", x.count(6), 3);
  }

  private static void edgesOfToldAgain() {
    // Not the same one behind, nothing behind, or a sign of 128 or more: the mark that was told stands for itself.
    due.rest(Due.reading("^^5eA"), "sign94/7@0 sign65/11@4 sign32/10@5");
    SignCategories x = Due.reading("^^5e^\u0080", "^^5e", "^^5e^", "^^5e^4", "^^5e_A");
    x.category('_', 7, false);
    x.endSign(-1);
    due.rest(x, "sign94/7@0 sign94/7@4 sign128/12@5 sign94/7@0 sign94/7@0 sign94/7@4 sign116/11@0"
        + " sign94/7@0 sign95/7@4 sign65/11@5");
    // A sign that is told, but of another category, tells nothing.
    due.rest(Due.reading("^^5f_A"), "sign95/12@0 sign95/12@4 sign65/11@5 sign32/10@6");
  }

  private static void markNow() {
    SignCategories x = Due.reading("^^A^^A!!A");
    x.next();
    x.category('^', 12, false);
    x.category('!', 7, false);
    due.rest(x, "sign94/12@3 sign94/12@4 sign65/11@5 sign1/12@6 sign32/10@9");
  }

  private static void namesRead() {
    due.sentence("0: without a sign behind it the empty name", TermsEdgesTest::emptyName);
    due.sentence("all letters that follow one another there, and state 2", TermsEdgesTest::letterName);
    due.sentence("else that sign alone, and state 2 if it is a blank, else 1", TermsEdgesTest::otherName);
    due.sentence("(Signs there are as told above.)", TermsEdgesTest::toldInNames);
  }

  private static void emptyName() {
    SignCategories x = Due.reading("a\\", "\\", "\\\\");
    x.endSign(-1);
    x.next();
    due.is("next()", x.next(), 1);
    due.token(x, 1, 1, 1, 0, 0, 0, 1);
    due.is("name(1, 0)", x.name(1, 0), -1);
    due.is("state()", x.state(), 1);
    due.is("count(6)", x.count(6), 0);
    due.is("next() of the same", x.next(), 2);
    due.token(x, 2, 1, 1, 0, 0, 1, 0);
    due.is("next() of an escape as a name", x.next(), 3);
    due.token(x, 3, 1, 2, 0, 0, 2, 0);
    due.name(x, 2, "\\");
    due.is("count(1)", x.count(1), 3);
    // With an end sign there always is a sign behind.
    x = Due.reading("\\");
    x.next();
    due.name(x, 1, "\r");
    due.is("state()", x.state(), 1);
    due.is("count(6)", x.count(6), 0);
  }

  private static void letterName() {
    SignCategories x = Due.reading("\\a1\\AZaz@\\b", "\\c");
    x.next();
    due.is("state()", x.state(), 2);
    due.name(x, 1, "a");
    due.rest(x, "sign49/12@2 name2/0@3 sign64/12@8 name3/0@9 name4/0@0");
    due.name(x, 2, "AZaz");
    // To the very end of the line, the end sign with it if it is a letter.
    x = Due.reading("\\ab");
    x.endSign('c');
    due.rest(x, "name1/0@0");
    due.name(x, 1, "abc");
    x = Due.reading("\\ab", "c");
    x.endSign(-1);
    x.next();
    due.is("state() at the end", x.state(), 2);
    due.is("count(6)", x.count(6), 0);
    due.name(x, 1, "ab");
    // State 2: blanks behind give nothing.
    due.rest(Due.reading("\\a  b"), "name1/0@0 sign98/11@4 sign32/10@5");
  }

  private static void otherName() {
    SignCategories x = Due.reading("\\11\\  a\\%b");
    x.next();
    due.is("state() behind a sign of category 12", x.state(), 1);
    due.name(x, 1, "1");
    x.next();
    x.next();
    due.is("state() behind a blank", x.state(), 2);
    due.name(x, 2, " ");
    due.rest(x, "sign97/11@6 name3/0@7 sign98/11@9 sign32/10@10");
    // Whatever its category: only 10 makes state 2.
    for (int category = 0; category < 16; category++) {
      x = Due.reading("\\!");
      x.category('!', category, false);
      x.next();
      due.is("state() behind a sign of category " + category, x.state(), category == 10 || category == 11 ? 2 : 1);
      due.name(x, 1, "!");
      due.is("count(5)", x.count(5), 0);
    }
    x = Due.reading("\\ ");
    x.category(32, 12, false);
    x.endSign(32);
    x.next();
    due.is("state() behind sign 32 of category 12", x.state(), 1);
  }

  private static void toldInNames() {
    SignCategories x = Due.reading("\\^^61b^^63^^2e\\^^2eb\\^^20  c\\^^M\\^^");
    x.endSign(-1);
    due.rest(x, "name1/0@0 sign46/12@10 name2/0@14 sign98/11@19 name3/0@20 sign99/11@27 name4/0@28 name5/0@32 sign94/7@34");
    due.name(x, 1, "abc");
    due.name(x, 2, ".");
    due.name(x, 3, " ");
    due.name(x, 4, "\r");
    due.name(x, 5, "^");
    // An escape that is told begins a name where its first sign is.
    x = Due.reading("z^^5cab");
    due.rest(x, "sign122/11@0 name1/0@1");
    due.name(x, 1, "ab");
  }

  private static void otherTokens() {
    due.sentence("5: the line is over (what stands behind is not looked at)", TermsEdgesTest::nothingBehindTheEnd);
    due.sentence("5: in state 0 the name PAR", TermsEdgesTest::endInState0);
    due.sentence("5: in state 1 sign 32 of category 10", TermsEdgesTest::endInState1);
    due.sentence("5: in state 2 nothing", TermsEdgesTest::endInState2);
    due.sentence("9: nothing", TermsEdgesTest::ignored);
    due.sentence("10: in state 1 sign 32 of category 10, and state 2; else nothing", TermsEdgesTest::blank);
    due.sentence("14: the line is over", TermsEdgesTest::comment);
    due.sentence("15: nothing, TOLD 1", TermsEdgesTest::invalid);
    due.sentence("13: the ACTIVE sign, state 1; TOLD 2, if it has no meaning", TermsEdgesTest::active);
    due.sentence("all others: that sign of that category, state 1", TermsEdgesTest::allOthers);
  }

  private static void nothingBehindTheEnd() {
    SignCategories x = Due.reading("a!\u007f~\\zb", "c");
    x.category('!', 5, false);
    x.next();
    due.is("next()", x.next(), 1);
    due.is("count(6)", x.count(6), 0);
    due.is("state()", x.state(), -1);
    due.rest(x, "sign99/11@0 sign32/10@1");
    due.is("count(5)", x.count(5), 0);
    due.is("count(1)", x.count(1), 1);
  }

  private static void endInState0() {
    SignCategories x = Due.reading("", "  ", "\0", "\u007f", "\t");
    x.category('\t', 10, false);
    due.rest(x, "name0/0@0 name0/0@0 name0/0@1 name0/0@1 name0/0@1");
    due.name(x, 0, "par");
  }

  private static void endInState1() {
    SignCategories x = Due.reading("a", "~", "\\1", "{");
    due.rest(x, "sign97/11@0 sign32/10@1 active126/13@0 sign32/10@1 name1/0@0 sign32/10@2 sign123/1@0 sign32/10@1");
    // The end itself may be another sign than 32, and sign 32 of another category.
    x = Due.reading("a!");
    x.category('!', 5, false);
    x.category(32, 12, false);
    due.rest(x, "sign97/11@0 sign32/10@1");
  }

  private static void endInState2() {
    SignCategories x = Due.reading("a\t", "\\b", "\\ \t", "c");
    x.category('\t', 10, false);
    due.rest(x, "sign97/11@0 sign32/10@1 name1/0@0 name2/0@0 sign99/11@0 sign32/10@1");
  }

  private static void ignored() {
    due.rest(Due.reading("\0", "a\0", "a \0 b", "\\c\0 d"), "name0/0@1 sign97/11@0 sign32/10@2 sign97/11@0 sign32/10@1"
        + " sign98/11@4 sign32/10@5 name1/0@0 sign100/11@4 sign32/10@5");
    SignCategories x = Due.reading("\0\0");
    x.endSign(-1);
    due.is("next()", x.next(), -3);
    due.is("count(5)", x.count(5), 0);
  }

  private static void blank() {
    SignCategories x = Due.reading(" a  b");
    x.next();
    due.token(x, 0, 0, 'a', 11, 0, 0, 1);
    due.is("state()", x.state(), 1);
    x.next();
    due.token(x, 1, 0, 32, 10, 0, 0, 2);
    due.is("state()", x.state(), 2);
    x.next();
    due.token(x, 2, 0, 'b', 11, 0, 0, 4);
    // In state 0 the state stays 0.
    due.rest(Due.reading("^^20"), "name0/0@4");
    // Any sign of category 10 gives sign 32.
    x = Due.reading("a-b");
    x.category('-', 10, false);
    due.rest(x, "sign97/11@0 sign32/10@1 sign98/11@2 sign32/10@3");
  }

  private static void comment() {
    SignCategories x = Due.reading("%\u007f", "a%\u007f", "a %\u007f", "b");
    due.rest(x, "sign97/11@0 sign97/11@0 sign32/10@1 sign98/11@0 sign32/10@1");
    due.is("count(5)", x.count(5), 0);
    due.is("count(7)", x.count(7), 4);
    x = Due.reading("!%", "%");
    due.rest(x, "sign33/12@0");
    due.is("count(3)", x.count(3), 0);
  }

  private static void invalid() {
    SignCategories x = Due.reading("\u007f", "a\u007f", "a \u007f b");
    due.rest(x, "name0/0@1 sign97/11@0 sign32/10@2 sign97/11@0 sign32/10@1 sign98/11@4 sign32/10@5");
    due.is("count(5)", x.count(5), 3);
    due.told(x, 0, 1, 0, 127);
    due.told(x, 1, 1, 2, 127);
    due.told(x, 2, 1, 5, 127);
    // It is told with the token that is asked for, in an earlier line, and without any token.
    x = Due.reading("a%", "\u007f%", "b\u0000^^7f%");
    due.rest(x, "sign97/11@0 sign98/11@0");
    due.told(x, 0, 1, 1, 127);
    due.told(x, 1, 1, 2, 127);
    due.is("count(5)", x.count(5), 2);
  }

  private static void active() {
    SignCategories x = Due.reading("~\u0000!~", " ~");
    x.category('!', 13, false);
    x.meaning('!', true);
    due.is("next()", x.next(), 0);
    due.token(x, 0, 2, '~', 13, 0, 0, 0);
    due.is("state()", x.state(), 1);
    due.told(x, 0, 2, 0, '~');
    due.is("next()", x.next(), 1);
    due.token(x, 1, 2, '!', 13, 0, 0, 2);
    due.is("count(5) with a meaning", x.count(5), 1);
    due.is("next()", x.next(), 2);
    due.told(x, 1, 2, 2, '~');
    due.rest(x, "sign32/10@4 active126/13@1 sign32/10@2");
    due.told(x, 2, 2, 4, '~');
    due.is("count(5)", x.count(5), 3);
    // A meaning given before, and taken again; of sign 0 and of sign 255.
    x = Due.reading("\0\u00ff");
    x.category(0, 13, false);
    x.category(255, 13, false);
    x.meaning(0, true);
    x.meaning(255, true);
    x.meaning(0, false);
    due.rest(x, "active0/13@0 active255/13@1 sign32/10@2");
    due.is("count(5)", x.count(5), 1);
    due.told(x, 0, 2, 0, 0);
  }

  private static void allOthers() {
    for (int category : new int[] {1, 2, 3, 4, 6, 7, 8, 11, 12}) {
      SignCategories x = Due.reading("! !");
      x.category('!', category, false);
      x.next();
      due.token(x, 0, 0, '!', category, 0, 0, 0);
      due.is("state() behind category " + category, x.state(), 1);
      due.rest(x, "sign32/10@1 sign33/" + category + "@2 sign32/10@3");
      due.is("count(5)", x.count(5), 0);
    }
  }

  private static void namesAndGroups() {
    due.sentence("NAMES are the same, if they have the same signs", TermsEdgesTest::sameNames);
    due.sentence("numbered from 0 as they come first (PAR is 0 from the first on)", TermsEdgesTest::numbersOfNames);
    due.sentence("at most 150", TermsEdgesTest::hundredAndFiftyNames);
    due.sentence("A name of more than 40 signs has its first 40, TOLD 3", TermsEdgesTest::longNames);
    due.sentence("GROUPS, at most 20", TermsEdgesTest::twentyGroups);
    due.sentence("at the end of one all categories are again as at its beginning", TermsEdgesTest::asAtItsBeginning);
    due.sentence("but for those set GLOBAL within, which stay so", TermsEdgesTest::globalStays);
    due.sentence("as if they were so before all groups that are open", TermsEdgesTest::globalBeforeAllGroups);
  }

  private static void sameNames() {
    due.rest(Due.reading("\\ab\\ab\\^^61b\\a\\abc\\b\\ba\\AB\\1\\1\\"),
        "name1/0@0 name1/0@3 name1/0@6 name2/0@12 name3/0@14 name4/0@18 name5/0@20 name6/0@23 name7/0@26 name7/0@28 name8/0@30");
    // The first, a middle and the last sign make a difference, and the length alone.
    SignCategories x = Due.reading("\\" + FORTY, "\\" + FORTY.substring(0, 39), "\\k" + FORTY.substring(1),
        "\\" + FORTY.substring(0, 39) + "k", "\\" + FORTY.substring(0, 20) + "k" + FORTY.substring(21), "\\" + FORTY);
    due.rest(x, "name1/0@0 name2/0@0 name3/0@0 name4/0@0 name5/0@0 name1/0@0");
    // A name that another one had begun with, and sign 0 in it.
    x = Due.reading("\\abc\\ab\\\0", "\\");
    x.category(0, 11, false);
    x.endSign(-1);
    due.rest(x, "name1/0@0 name2/0@4 name3/0@7 name4/0@0");
    due.name(x, 3, "\0");
    due.name(x, 4, "");
  }

  private static void numbersOfNames() {
    SignCategories x = Due.reading("\\par\\z\\par\\a\\z\\pa\\parx", "");
    due.is("count(1) at first", x.count(1), 1);
    due.name(x, 0, "par");
    due.rest(x, "name0/0@0 name1/0@4 name0/0@6 name2/0@10 name1/0@12 name3/0@14 name4/0@17 name0/0@0");
    due.is("count(1)", x.count(1), 5);
  }

  private static void hundredAndFiftyNames() {
    SignCategories x = Due.withNames(148, "\\aa\\bb\\aa\\cc");
    due.is("count(1)", x.count(1), 149);
    due.is("next() of the 150th name", x.next(), 148);
    due.token(x, 148, 1, 149, 0, 0, 3, 0);
    due.name(x, 149, "aa");
    due.is("next() of the 151st name", x.next(), -4);
    due.is("count(1)", x.count(1), 150);
    due.is("next() of the 150th name again", x.next(), 149);
    due.token(x, 149, 1, 149, 0, 0, 3, 6);
    due.is("next() of another 151st name", x.next(), -4);
    due.is("next()", x.next(), -3);
  }

  private static void longNames() {
    SignCategories x = Due.reading("\\" + FORTY + "!", "\\" + FORTY + "x!", "\\" + FORTY + "y" + FORTY + "z!",
        "\\" + FORTY.substring(1) + "x\\1");
    due.is("next() of 40 signs", x.next(), 0);
    due.is("count(5)", x.count(5), 0);
    due.name(x, 1, FORTY);
    x.next();
    x.next();
    due.is("next() of 41 signs", x.next(), 3);
    due.token(x, 3, 1, 1, 0, 0, 1, 0);
    due.told(x, 0, 3, 3, 0);
    due.is("count(6)", x.count(6), 2);
    due.is("state()", x.state(), 2);
    due.rest(x, "sign33/12@42 sign32/10@43 name1/0@0 sign33/12@83 sign32/10@84 name2/0@0 name3/0@41 sign32/10@43");
    due.told(x, 1, 3, 6, 0);
    due.is("count(5)", x.count(5), 2);
    due.name(x, 2, FORTY.substring(1) + "x");
    // One that comes first as a long one.
    x = Due.reading("\\" + FORTY + "x\\" + FORTY);
    due.rest(x, "name1/0@0 name1/0@42");
    due.name(x, 1, FORTY);
    due.is("count(5)", x.count(5), 1);
  }

  private static void twentyGroups() {
    SignCategories x = new SignCategories();
    for (int i = 1; i <= 20; i++) {
      due.is("group(true)", x.group(true), i);
    }
    due.is("group(true) of the 21st", x.group(true), -4);
    for (int i = 19; i >= 0; i--) {
      due.is("group(false)", x.group(false), i);
    }
    due.is("group(false) of none", x.group(false), -3);
    due.is("group(true)", x.group(true), 1);
  }

  private static void asAtItsBeginning() {
    SignCategories x = new SignCategories();
    for (int i = 0; i < 20; i++) {
      x.category(0, i % 15, false);
      x.category(255, 15 - i % 15, false);
      x.group(true);
      x.category(0, 15, false);
      x.category(128, 0, false);
      x.category(128, i % 15, false);
    }
    for (int i = 19; i >= 0; i--) {
      x.group(false);
      due.is("categoryOf(0) behind group " + i, x.categoryOf(0), i % 15);
      due.is("categoryOf(255) behind group " + i, x.categoryOf(255), 15 - i % 15);
      due.is("categoryOf(128) behind group " + i, x.categoryOf(128), i == 0 ? 12 : (i - 1) % 15);
    }
    // In the midst of a line, and whatever is open otherwise.
    x = Due.reading("!!!");
    x.group(true);
    x.category('!', 13, false);
    x.next();
    x.group(false);
    due.rest(x, "sign33/12@1 sign33/12@2 sign32/10@3");
    // A group that has ended leaves nothing for the next one.
    x = new SignCategories();
    x.group(true);
    x.category(7, 3, false);
    x.group(false);
    x.category(7, 4, false);
    x.group(true);
    x.group(false);
    due.is("categoryOf(7)", x.categoryOf(7), 4);
  }

  private static void globalStays() {
    SignCategories x = new SignCategories();
    x.group(true);
    x.category(0, 3, true);
    x.category(255, 4, true);
    x.category(128, 5, false);
    x.group(false);
    due.is("categoryOf(0)", x.categoryOf(0), 3);
    due.is("categoryOf(255)", x.categoryOf(255), 4);
    due.is("categoryOf(128)", x.categoryOf(128), 12);
    // Global without groups is a category like another.
    x.category(0, 6, true);
    x.group(true);
    x.category(0, 7, false);
    x.group(false);
    due.is("categoryOf(0)", x.categoryOf(0), 6);
    // Set global, although it is so already.
    x.group(true);
    x.category(9, 1, false);
    x.category(9, 1, true);
    x.group(false);
    due.is("categoryOf(9)", x.categoryOf(9), 1);
  }

  private static void globalBeforeAllGroups() {
    SignCategories x = new SignCategories();
    for (int i = 0; i < 20; i++) {
      x.group(true);
      x.category(5, 6, false);
      x.category(0, 1, false);
    }
    x.category(5, 7, true);
    x.category(0, 2, true);
    x.category(0, 3, false);
    for (int i = 19; i >= 0; i--) {
      x.group(false);
      due.is("categoryOf(5) behind group " + i, x.categoryOf(5), 7);
      due.is("categoryOf(0) behind group " + i, x.categoryOf(0), 2);
    }
    // Local behind it, in the same group and in one that begins later.
    x.group(true);
    x.group(true);
    x.category(5, 8, true);
    x.category(5, 9, false);
    x.group(true);
    x.category(5, 10, false);
    x.group(false);
    due.is("categoryOf(5) in its group", x.categoryOf(5), 9);
    x.group(false);
    due.is("categoryOf(5) outside", x.categoryOf(5), 8);
    x.group(false);
    due.is("categoryOf(5) outside all", x.categoryOf(5), 8);
    // Groups that have ended before have no part in it.
    x.group(true);
    due.is("categoryOf(5)", x.categoryOf(5), 8);
    x.category(5, 0, false);
    x.group(false);
    due.is("categoryOf(5)", x.categoryOf(5), 8);
  }
}
