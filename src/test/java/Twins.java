/**
 * Two objects with the same calls behind them. One of them is asked what is refused; they are alike behind it as long as
 * refusals change nothing.
 */
final class Twins {
  interface Calls {
    void on(SignCategories x);
  }

  interface Call {
    int on(SignCategories x);
  }

  private static final int[] SIGNS = {0, 1, 32, 94, 97, 126, 127, 255};
  private static final int MOST_TOKENS = 25;

  private Twins() {
  }

  static void refused(Due due, String name, int answer, Calls before, Call call) {
    SignCategories asked = new SignCategories();
    SignCategories spared = new SignCategories();
    before.on(asked);
    before.on(spared);
    due.is(name, call.on(asked), answer);
    due.same("what is seen behind " + name, view(asked), view(spared));
  }

  /** What can be seen of an object: as it is, what it reads from there on, and how its groups end. */
  private static String view(SignCategories x) {
    StringBuilder text = new StringBuilder();
    counts(x, text);
    for (int read = 0; read < MOST_TOKENS && x.count(3) > 0; read++) {
      int token = x.next();
      text.append(" next ").append(token);
      for (int what = 0; token >= 0 && what < 6; what++) {
        text.append(' ').append(Due.part(x, token, what));
      }
    }
    x.open(0);
    for (int read = 0; read < MOST_TOKENS; read++) {
      text.append(" raw ").append(Due.part(x, x.raw(), 1));
    }
    counts(x, text);
    text.append(" told ").append(x.told(x.count(5) - 1, 0)).append(x.told(0, 1)).append(x.told(0, 2));
    text.append(" name ").append(x.name(x.count(1) - 1, 0));
    for (int i = 0; i <= 20; i++) {
      for (int sign : SIGNS) {
        text.append(' ').append(x.categoryOf(sign));
      }
      text.append(" group ").append(x.group(false));
    }
    return text.toString();
  }

  private static void counts(SignCategories x, StringBuilder text) {
    for (int what = 0; what < 8; what++) {
      text.append(' ').append(x.count(what));
    }
    text.append(" state ").append(x.state());
  }
}
