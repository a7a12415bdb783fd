/** Long runs of calls, the same each time, in which every answer is compared with the plain model's. */
public final class StormTest {
  private static final int RUNS = 3000;
  private static final String USUAL = "\\\\\\^^^^^_ab4e5cMd01 ?@  %~.{}\0\u007f\r\u00ff";
  private static final int[] ODD = {-1, Integer.MIN_VALUE, Integer.MAX_VALUE, 256, 255, 0, 1, 16, 150, 600};

  private static final Due due = new Due();
  private static final int[] seen = new int[10];
  private static long seed;
  private static SignCategories x;
  private static PlainModel y;

  public static void main(String[] args) {
    for (int run = 0; run < RUNS; run++) {
      seed = run * 7919L + 1;
      x = new SignCategories();
      y = new PlainModel();
      int file = pick(4);
      for (int call = 0; call < 512; call++) {
        file = call % 40 == 39 ? pick(9) : file;
        answer(run, file);
      }
      tokensAreTheSame(run);
    }
    // The storm reaches what it is to reach.
    for (int refusal = 1; refusal <= 5; refusal++) {
      due.holds("an answer -" + refusal + " came often", seen[refusal] > RUNS / 10);
    }
    pastTheLimit();
    due.end("StormTest");
  }

  private static int pick(int below) {
    seed = seed * 6364136223846793005L + 1442695040888963407L;
    return (int) ((seed >>> 33) % below);
  }

  private static int oddOr(int below) {
    return pick(25) == 0 ? ODD[pick(ODD.length)] : pick(below);
  }

  private static int usual() {
    return pick(12) == 0 ? oddOr(256) : USUAL.charAt(pick(USUAL.length()));
  }

  private static void same(int run, String what, int got, int want) {
    due.is("run " + run + ": " + what, got, want);
    if (got < 0 && got >= -5) {
      seen[-got]++;
    }
  }

  private static void answer(int run, int file) {
    int f = pick(20) == 0 ? oddOr(9) : file;
    int a = usual();
    int b = oddOr(16);
    boolean yes = pick(3) == 0;
    switch (pick(24)) {
      case 0: same(run, "category", x.category(a, b, yes), y.category(a, b, yes)); break;
      case 1: same(run, "group", x.group(pick(run % 3 + 1) == 0), y.group(lastWasZero(run % 3 + 1))); break;
      case 2: a = pick(3) - 1 + (pick(4) == 0 ? usual() : 0);
        same(run, "endSign", x.endSign(a), y.endSign(a)); break;
      case 3: same(run, "meaning", x.meaning(a, yes), y.meaning(a, yes)); break;
      case 4: same(run, "file", x.file(), y.file()); break;
      case 5: case 6: same(run, "line", x.line(f), y.line(f)); break;
      case 7: case 8: case 9: case 10: case 11: add(run, f); break;
      case 12: same(run, "open", x.open(f), y.open(f)); break;
      case 13: if (pick(3) == 0) same(run, "close", x.close(), y.close()); break;
      case 14: same(run, "raw", x.raw(), y.raw()); break;
      case 15: a = oddOr(60); b = oddOr(8);
        same(run, "token", Due.part(x, a, b), y.token(a, b)); break;
      case 16: a = oddOr(20); b = oddOr(8);
        same(run, "name", x.name(a, b), y.name(a, b)); break;
      case 17: a = oddOr(20); b = oddOr(4);
        same(run, "told", x.told(a, b), y.told(a, b)); break;
      case 18: same(run, "categoryOf", x.categoryOf(a), y.categoryOf(a)); break;
      default: same(run, "next", x.next(), y.next()); break;
    }
    same(run, "state", x.state(), y.state());
    for (int what = -1; what < 9; what++) {
      same(run, "count " + what, x.count(what), y.count(what));
    }
  }

  /** The last pick once more, for the other side. */
  private static boolean lastWasZero(int below) {
    return (seed >>> 33) % below == 0;
  }

  private static void add(int run, int f) {
    long bytes = 0;
    for (int k = 0; k < 8; k++) {
      bytes = bytes << 8 | usual() & 255;
    }
    int n = pick(20) == 0 ? oddOr(10) : 8;
    same(run, "add", x.add(f, bytes, n), y.add(f, bytes, n));
  }

  private static void tokensAreTheSame(int run) {
    for (int i = -1; i <= y.count(0); i++) {
      for (int what = -1; what < 7; what++) {
        due.is("run " + run + ": token(" + i + ", " + what + ")", Due.part(x, i, what), y.token(i, what));
      }
    }
    for (int i = -1; i <= y.count(1); i++) {
      for (int k = -1; k < 42; k++) {
        due.is("run " + run + ": name(" + i + ", " + k + ")", x.name(i, k), y.name(i, k));
      }
    }
    for (int i = -1; i <= y.count(5) + 1; i++) {
      for (int what = -1; what < 4; what++) {
        due.is("run " + run + ": told(" + i + ", " + what + ")", x.told(i, what), y.told(i, what));
      }
    }
    for (int sign = -1; sign < 257; sign++) {
      due.is("run " + run + ": categoryOf(" + sign + ")", x.categoryOf(sign), y.categoryOf(sign));
    }
    due.is("run " + run + ": check()", x.check(), 1);
  }

  /** Behind the 512th call answers are free, but no call may throw by itself: 600 tokens are the room. */
  private static void pastTheLimit() {
    x = Due.reading("abcdefgh".repeat(15));
    for (int call = 0; call < 700; call++) {
      int want = call < 600 ? call : -4;
      if (x.count(6) == 0) {
        x.open(0);
      }
      due.is("call " + call, call % 2 == 0 ? x.next() : x.raw(), call < 600 ? x.count(0) - 1 : want);
    }
    due.is("count(0)", x.count(0), 600);
  }
}
