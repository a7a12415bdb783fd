/** Compares answers with those that are due, and puts texts into files. */
final class Due {
  private int wrong = 0;
  private int asked = 0;

  void is(String what, long got, long want) {
    asked++;
    if (got != want) {
      wrong++;
      System.out.println(what + " answered " + got + ", due is " + want);
    }
  }

  void holds(String what, boolean got) {
    is(what, got ? 1 : 0, 1);
  }

  /** All six parts of a token. */
  void token(SignCategories x, int i, int kind, int value, int category, int file, int line, int place) {
    int[] want = {kind, value, category, file, line, place};
    for (int what = 0; what < want.length; what++) {
      is("token(" + i + ", " + what + ")", part(x, i, what), want[what]);
    }
  }

  /** A token's part, and a number that no part can be if the call throws what it may throw. */
  static int part(SignCategories x, int i, int what) {
    try {
      return x.token(i, what);
    } catch (ArrayIndexOutOfBoundsException e) {
      return Integer.MIN_VALUE;
    }
  }

  void noToken(SignCategories x, int i, int what) {
    is("token(" + i + ", " + what + ")", part(x, i, what), Integer.MIN_VALUE);
  }

  void told(SignCategories x, int i, int what, int tokens, int sign) {
    is("told(" + i + ", 0)", x.told(i, 0), what);
    is("told(" + i + ", 1)", x.told(i, 1), tokens);
    is("told(" + i + ", 2)", x.told(i, 2), sign);
  }

  void name(SignCategories x, int name, String signs) {
    for (int k = 0; k < signs.length(); k++) {
      is("name(" + name + ", " + k + ")", x.name(name, k), signs.charAt(k));
    }
    is("name(" + name + ", " + signs.length() + ")", x.name(name, signs.length()), -1);
  }

  /** One more file with these lines. */
  static int file(SignCategories x, String... lines) {
    int file = x.file();
    for (String line : lines) {
      line(x, file, line);
    }
    return file;
  }

  static void line(SignCategories x, int file, String signs) {
    x.line(file);
    add(x, file, signs);
  }

  static void add(SignCategories x, int file, String signs) {
    for (int at = 0; at < signs.length(); at += 8) {
      int n = Math.min(8, signs.length() - at);
      long bytes = 0;
      for (int k = 0; k < n; k++) {
        bytes = bytes << 8 | signs.charAt(at + k);
      }
      x.add(file, bytes, n);
    }
  }

  /** A new object whose file 0 has these lines, and is open. */
  static SignCategories reading(String... lines) {
    SignCategories x = new SignCategories();
    x.open(file(x, lines));
    return x;
  }

  /** The rest of the tokens, as text: kind and number, category, place. */
  static String rest(SignCategories x) {
    StringBuilder text = new StringBuilder();
    for (int i = x.next(); i >= 0; i = x.next()) {
      if (text.length() > 0) {
        text.append(' ');
      }
      text.append(x.token(i, 0) == 1 ? "name" : x.token(i, 0) == 2 ? "active" : "sign");
      text.append(x.token(i, 1)).append('/').append(x.token(i, 2)).append('@').append(x.token(i, 5));
    }
    return text.toString();
  }

  void rest(SignCategories x, String want) {
    String got = rest(x);
    asked++;
    if (!got.equals(want)) {
      wrong++;
      System.out.println("tokens are " + got + ", due are " + want);
    }
  }

  void end(String test) {
    System.out.println(test + ": " + asked + " answers, " + wrong + " not as due");
    if (wrong != 0) {
      System.exit(1);
    }
  }
}
