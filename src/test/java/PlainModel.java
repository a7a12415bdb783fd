import java.util.ArrayList;
import java.util.HashMap;
import java.util.List;
import java.util.Map;

/** The document once more, in its plainest words and with the library's lists, to compare long runs with. */
final class PlainModel {
  private static final class Open {
    int file;
    int begun = 0;
    boolean ends = false;
    String line = null;
    int place = 0;
    int state = 0;
  }

  private final int[] categories = new int[256];
  private final List<Map<Integer, Integer>> undo = new ArrayList<>();
  private final boolean[] meanings = new boolean[256];
  private final List<List<StringBuilder>> files = new ArrayList<>();
  private final List<Open> levels = new ArrayList<>();
  private final List<String> names = new ArrayList<>(List.of("par"));
  private final List<int[]> tokens = new ArrayList<>();
  private final List<int[]> told = new ArrayList<>();
  private int end = 13;
  private int begun = 0;
  private String nameRead;
  private int stateRead;

  PlainModel() {
    for (int i = 0; i < 256; i++) {
      int at = "\\{}\r^\0 ~%\u007f".indexOf(i);
      categories[i] = at >= 0 ? new int[] {0, 1, 2, 5, 7, 9, 10, 13, 14, 15}[at]
          : i < 128 && Character.isLetter(i) ? 11 : 12;
    }
  }

  private static boolean sign(int s) {
    return 0 <= s && s <= 255;
  }

  private boolean file(int f) {
    return 0 <= f && f < files.size();
  }

  private Open top() {
    return levels.isEmpty() ? null : levels.get(levels.size() - 1);
  }

  int category(int s, int c, boolean global) {
    if (!sign(s) || c < 0 || c > 15) return -2;
    // Without what they would take back, the ends of all open groups leave a global one as it is.
    for (Map<Integer, Integer> group : undo) {
      if (global) group.remove(s);
    }
    if (!global && !undo.isEmpty()) undo.get(undo.size() - 1).putIfAbsent(s, categories[s]);
    categories[s] = c;
    return 1;
  }

  int group(boolean opens) {
    if (opens) {
      if (undo.size() == 20) return -4;
      undo.add(new HashMap<>());
      return undo.size();
    }
    if (undo.isEmpty()) return -3;
    for (Map.Entry<Integer, Integer> old : undo.remove(undo.size() - 1).entrySet()) {
      categories[old.getKey()] = old.getValue();
    }
    return undo.size();
  }

  int endSign(int c) {
    if (c < -1 || c > 255) return -2;
    end = c;
    return 1;
  }

  int meaning(int s, boolean has) {
    if (!sign(s)) return -2;
    meanings[s] = has;
    return 1;
  }

  int file() {
    if (files.size() == 8) return -4;
    files.add(new ArrayList<>());
    return files.size() - 1;
  }

  int line(int f) {
    if (!file(f)) return -1;
    if (files.get(f).size() == 30) return -4;
    files.get(f).add(new StringBuilder());
    return files.get(f).size();
  }

  int add(int f, long bytes, int n) {
    if (!file(f)) return -1;
    if (n < 1 || n > 8) return -2;
    if (files.get(f).isEmpty()) return -3;
    StringBuilder last = files.get(f).get(files.get(f).size() - 1);
    if (last.length() + n > 120) return -4;
    byte[] all = java.nio.ByteBuffer.allocate(8).putLong(bytes).array();
    for (int k = 8 - n; k < 8; k++) last.append((char) (all[k] & 255));
    return last.length();
  }

  int open(int f) {
    if (!file(f)) return -1;
    if (levels.size() == 6) return -4;
    Open level = new Open();
    level.file = f;
    levels.add(level);
    return levels.size();
  }

  int close() {
    if (levels.isEmpty()) return -3;
    top().ends = true;
    return 1;
  }

  private boolean ready() {
    while (!levels.isEmpty()) {
      Open level = top();
      if (level.line != null) return true;
      List<StringBuilder> lines = files.get(level.file);
      if (level.ends || level.begun == lines.size()) {
        levels.remove(levels.size() - 1);
      } else {
        level.line = lines.get(level.begun++).toString().replaceFirst(" +\\z", "") + (end < 0 ? "" : "" + (char) end);
        level.place = 0;
        level.state = 0;
        begun++;
      }
    }
    return false;
  }

  /** The sign that a text begins with, and how many signs it takes there: none if the text is empty. */
  private int[] first(String text) {
    if (text.isEmpty()) return null;
    if (categories[text.charAt(0)] == 7 && text.length() > 2 && text.charAt(1) == text.charAt(0) && text.charAt(2) < 128) {
      int used = 3;
      int sign = text.charAt(2) ^ 64;
      if (text.length() > 3 && text.substring(2, 4).matches("[0-9a-f]{2}")) {
        used = 4;
        sign = Integer.parseInt(text.substring(2, 4), 16);
      }
      int[] deeper = first((char) sign + text.substring(used));
      return new int[] {deeper[0], deeper[1] + used - 1};
    }
    return new int[] {text.charAt(0), 1};
  }

  private int make(Open level, int place, int kind, int value, int category) {
    tokens.add(new int[] {kind, value, category, level.file, level.begun - 1, place});
    return tokens.size() - 1;
  }

  int next() {
    if (levels.isEmpty()) return -3;
    if (tokens.size() == 600) return -4;
    while (ready()) {
      Open level = top();
      int place = level.place;
      int[] seen = first(level.line.substring(place));
      if (seen == null) {
        level.line = null;
        continue;
      }
      level.place += seen[1];
      int state = level.state;
      int category = categories[seen[0]];
      if (category == 0) {
        readName(level);
        level.state = stateRead;
        boolean isLong = nameRead.length() > 40;
        if (isLong) told.add(new int[] {3, tokens.size(), 0});
        String name = isLong ? nameRead.substring(0, 40) : nameRead;
        if (!names.contains(name)) {
          if (names.size() == 150) return -4;
          names.add(name);
        }
        return make(level, place, 1, names.indexOf(name), 0);
      } else if (category == 5) {
        level.line = null;
        if (state == 0) return make(level, place, 1, 0, 0);
        if (state == 1) return make(level, place, 0, 32, 10);
      } else if (category == 10) {
        if (state == 1) {
          level.state = 2;
          return make(level, place, 0, 32, 10);
        }
      } else if (category == 14) {
        level.line = null;
      } else if (category == 15) {
        told.add(new int[] {1, tokens.size(), seen[0]});
      } else if (category != 9) {
        level.state = 1;
        if (category == 13 && !meanings[seen[0]]) told.add(new int[] {2, tokens.size(), seen[0]});
        return make(level, place, category == 13 ? 2 : 0, seen[0], category);
      }
    }
    return -3;
  }

  private void readName(Open level) {
    nameRead = "";
    stateRead = 1;
    int[] seen = first(level.line.substring(level.place));
    if (seen == null) return;
    if (categories[seen[0]] != 11) {
      nameRead = "" + (char) seen[0];
      stateRead = categories[seen[0]] == 10 ? 2 : 1;
      level.place += seen[1];
      return;
    }
    stateRead = 2;
    while (seen != null && categories[seen[0]] == 11) {
      nameRead += (char) seen[0];
      level.place += seen[1];
      seen = first(level.line.substring(level.place));
    }
  }

  int raw() {
    if (levels.isEmpty()) return -3;
    if (tokens.size() == 600) return -4;
    if (!ready()) return -3;
    Open level = top();
    if (level.place == level.line.length()) {
      level.line = null;
      return -5;
    }
    level.place++;
    return make(level, level.place - 1, 0, level.line.charAt(level.place - 1), 12);
  }

  /** Integer.MIN_VALUE where the call throws. */
  int token(int i, int what) {
    return i < 0 || i >= tokens.size() || what < 0 || what > 5 ? Integer.MIN_VALUE : tokens.get(i)[what];
  }

  int name(int name, int k) {
    return name < 0 || name >= names.size() || k < 0 || k >= names.get(name).length() ? -1 : names.get(name).charAt(k);
  }

  int told(int i, int what) {
    return i < 0 || i >= Math.min(told.size(), 100) || what < 0 || what > 2 ? -1 : told.get(i)[what];
  }

  int categoryOf(int s) {
    return sign(s) ? categories[s] : -2;
  }

  int state() {
    return top() == null || top().line == null ? -1 : top().state;
  }

  int count(int what) {
    int left = top() == null || top().line == null ? 0 : top().line.length() - top().place;
    int[] counts = {tokens.size(), names.size(), files.size(), levels.size(), undo.size(), told.size(), left, begun};
    return what < 0 || what > 7 ? -2 : counts[what];
  }
}
