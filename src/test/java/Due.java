/** Compares answers with those that are due, and puts texts into files. */
final class Due {
  private int wrong = 0;
  private int asked = 0;
  private String words = "";

  /** A test of one sentence of the document: what is wrong in it is told with the sentence's words. */
  void sentence(String of, Runnable test) {
    words = "\"" + of + "\": ";
    test.run();
    words = "";
  }

  void is(String what, long got, long want) {
    asked++;
    if (got != want) {
      wrong++;
      System.out.println(words + what + " answered " + got + ", due is " + want);
    }
  }

  void holds(String what, boolean got) {
    is(what, got ? 1 : 0, 1);
  }

  /** All six parts of a token. */
  void token(SignCategories x, int i, int kind, int value, int category, int file, int line, int place) {
    int[] want = {kind, value, category, file, line, place};
    for (int what = 0; what < want.length; what++) {
      is("token(" + i + ", " + what + ")", part(x, i, what), want[what]);
    }
  }

  /** A token's part, and a number that no part can be if the call throws what it may throw. */
  static int part(SignCategories x, int i, int what) {
    try {
      return x.token(i, what);
    } catch (ArrayIndexOutOfBoundsException e) {
      return Integer.MIN_VALUE;
    }
  }

  void noToken(SignCategories x, int i, int what) {
    is("token(" + i + ", " + what + ")", part(x, i, what), Integer.MIN_VALUE);
  }

  void told(SignCategories x, int i, int what, int tokens, int sign) {
    is("told(" + i + ", 0)", x.told(i, 0), what);
    is("told(" + i + ", 1)", x.told(i, 1), tokens);
    is("told(" + i + ", 2)", x.told(i, 2), sign);
  }

  void name(SignCategories x, int name, String signs) {
    for (int k = 0; k < signs.length(); k++) {
      is("name(" + name + ", " + k + ")", x.name(name, k), signs.charAt(k));
    }
    is("name(" + name + ", " + signs.length() + ")", x.name(name, signs.length()), -1);
  }

  /** One more file with these lines. */
  static int file(SignCategories x, String... lines) {
    int file = x.file();
    for (String line : lines) {
      line(x, file, line);
    }
    return file;
  }

  static void line(SignCategories x, int file, String signs) {
    x.line(file);
    add(x, file, signs);
  }

  static void add(SignCategories x, int file, String signs) {
    for (int at = 0; at < signs.length(); at += 8) {
      int n = Math.min(8, signs.length() - at);
      long bytes = 0;
      for (int k = 0; k < n; k++) {
        bytes = bytes << 8 | signs.charAt(at + k);
      }
      x.add(file, bytes, n);
    }
  }

  /** A new object whose file 0 has these lines, and is open. */
  static SignCategories reading(String... lines) {
    SignCategories x = new SignCategories();
    x.open(file(x, lines));
    return x;
  }

  /**
   * An object that has read as many names of one sign each, beside PAR; what stands behind them is in lines of their
   * own from line 3 on, without an end sign, and is to be read.
   */
  static SignCategories withNames(int names, String... behind) {
    StringBuilder signs = new StringBuilder();
    for (int k = 0; k < names; k++) {
      signs.append('\\').append((char) (k < 128 ? 128 + k : 33 + k - 128));
    }
    SignCategories x = reading(signs.substring(0, 120), signs.substring(120, 240), signs.substring(240));
    for (String line : behind) {
      line(x, 0, line);
    }
    x.endSign(-1);
    for (int k = 0; k < names; k++) {
      x.next();
    }
    return x;
  }

  /** The rest of the tokens, as text: kind and number, category, place. */
  static String rest(SignCategories x) {
    StringBuilder text = new StringBuilder();
    int most = 600;
    for (int i = x.next(); i >= 0 && most > 0; i = x.next()) {
      most--;
      if (text.length() > 0) {
        text.append(' ');
      }
      text.append(x.token(i, 0) == 1 ? "name" : x.token(i, 0) == 2 ? "active" : "sign");
      text.append(x.token(i, 1)).append('/').append(x.token(i, 2)).append('@').append(x.token(i, 5));
    }
    return text.toString();
  }

  void rest(SignCategories x, String want) {
    same("what next() tells", rest(x), want);
  }

  void same(String what, String got, String want) {
    asked++;
    if (!got.equals(want)) {
      wrong++;
      System.out.println(words + what + " is " + got + ", due is " + want);
    }
  }

  void end(String test) {
    System.out.println(test + ": " + asked + " answers, " + wrong + " not as due");
    if (wrong != 0) {
      System.exit(1);
    }
  }
}
