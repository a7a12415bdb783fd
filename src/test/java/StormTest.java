/**
 * Long runs of calls, the same each time, in which every answer is compared with the plain model's. No object is asked
 * more than 512 times, as nothing is promised behind that.
 */
public final class StormTest {
  private static final int RUNS = 12000;
  private static final int MOST_CALLS = 512;
  private static final int CALLS_BEFORE_THE_END = 380;
  private static final String USUAL = "\\\\\\^^^^^_ab4e5cMd01 ?@  %~.{}\0\u007f\r\u00ff";
  private static final int[] ODD = {-1, Integer.MIN_VALUE, Integer.MAX_VALUE, 256, 255, 0, 1, 16, 150, 600};

  private static final Due due = new Due();
  private static final int[] seen = new int[10];
  private static long seed;
  private static SignCategories x;
  private static PlainModel y;
  private static int asked;

  public static void main(String[] args) {
    for (int run = 0; run < RUNS; run++) {
      seed = run * 7919L + 1;
      x = new SignCategories();
      y = new PlainModel();
      asked = 0;
      int file = pick(4);
      // Short runs see the first calls' effects, long ones the limits.
      int calls = CALLS_BEFORE_THE_END / (1 + pick(4));
      for (int call = 0; asked < calls; call++) {
        file = call % 40 == 39 ? pick(9) : file;
        answer(run, file);
      }
      while (asked < MOST_CALLS) {
        lookBack(run);
      }
    }
    // The storm reaches what it is to reach.
    for (int refusal = 1; refusal <= 5; refusal++) {
      due.holds("an answer -" + refusal + " came often", seen[refusal] > RUNS / 10);
    }
    due.end("StormTest");
  }

  private static int pick(int below) {
    seed = seed * 6364136223846793005L + 1442695040888963407L;
    return (int) ((seed >>> 33) % below);
  }

  private static int oddOr(int below) {
    return pick(25) == 0 ? ODD[pick(ODD.length)] : pick(below);
  }

  private static int usual() {
    return pick(12) == 0 ? oddOr(256) : USUAL.charAt(pick(USUAL.length()));
  }

  private static void same(int run, String what, int got, int want) {
    asked++;
    due.is("run " + run + ": " + what, got, want);
    if (got < 0 && got >= -5) {
      seen[-got]++;
    }
  }

  private static void answer(int run, int file) {
    int f = pick(20) == 0 ? oddOr(9) : file;
    int a = usual();
    int b = oddOr(16);
    boolean yes = pick(3) == 0;
    switch (pick(24)) {
      case 0: same(run, "category", x.category(a, b, yes), y.category(a, b, yes)); break;
      case 1: same(run, "group", x.group(pick(run % 3 + 1) == 0), y.group(lastWasZero(run % 3 + 1))); break;
      case 2: a = pick(3) - 1 + (pick(4) == 0 ? usual() : 0);
        same(run, "endSign", x.endSign(a), y.endSign(a)); break;
      case 3: same(run, "meaning", x.meaning(a, yes), y.meaning(a, yes)); break;
      case 4: same(run, "file", x.file(), y.file()); break;
      case 5: case 6: same(run, "line", x.line(f), y.line(f)); break;
      case 7: case 8: case 9: case 10: case 11: add(run, f); break;
      case 12: same(run, "open", x.open(f), y.open(f)); break;
      case 13: if (pick(3) == 0) same(run, "close", x.close(), y.close()); break;
      case 14: same(run, "raw", x.raw(), y.raw()); break;
      case 15: a = oddOr(60); b = oddOr(8);
        same(run, "token", Due.part(x, a, b), y.token(a, b)); break;
      case 16: a = oddOr(20); b = oddOr(8);
        same(run, "name", x.name(a, b), y.name(a, b)); break;
      case 17: a = oddOr(20); b = oddOr(4);
        same(run, "told", x.told(a, b), y.told(a, b)); break;
      case 18: same(run, "categoryOf", x.categoryOf(a), y.categoryOf(a)); break;
      default: same(run, "next", x.next(), y.next()); break;
    }
    if (pick(4) == 0) {
      int what = pick(9);
      same(run, "count " + what, x.count(what), y.count(what));
    } else if (pick(4) == 0) {
      same(run, "state", x.state(), y.state());
    }
  }

  /** The last pick once more, for the other side. */
  private static boolean lastWasZero(int below) {
    return (seed >>> 33) % below == 0;
  }

  private static void add(int run, int f) {
    long bytes = 0;
    for (int k = 0; k < 8; k++) {
      bytes = bytes << 8 | usual() & 255;
    }
    int n = pick(20) == 0 ? oddOr(10) : 8;
    same(run, "add", x.add(f, bytes, n), y.add(f, bytes, n));
  }

  /** Looks at something that is there already: for the most part at what there is, else beside it. */
  private static void lookBack(int run) {
    int i;
    int k;
    switch (pick(8)) {
      case 0: case 1: case 2: case 3: i = pick(y.count(0) + 1); k = pick(6);
        same(run, "token", Due.part(x, i, k), y.token(i, k)); break;
      case 4: i = pick(y.count(1) + 1); k = pick(6);
        same(run, "name", x.name(i, k), y.name(i, k)); break;
      case 5: i = pick(y.count(5) + 1); k = pick(3);
        same(run, "told", x.told(i, k), y.told(i, k)); break;
      case 6: i = usual();
        same(run, "categoryOf", x.categoryOf(i), y.categoryOf(i)); break;
      default: same(run, "check", x.check(), 1); break;
    }
  }
}
