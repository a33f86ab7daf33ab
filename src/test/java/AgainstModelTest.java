import java.util.ArrayDeque;
import java.util.ArrayList;
import java.util.Arrays;
import java.util.Deque;
import java.util.List;
import java.util.Random;
import java.util.regex.Matcher;
import java.util.regex.Pattern;

// Long runs of drawn calls, each answer held against a model that is written from the document anew,
// with the Java library's own bits, remainder and patterns, and with no row that is used again.
public final class AgainstModelTest {
  private static final int RUNS = 4000;
  private static final int CALLS = 120;
  /** An object is promised for 512 calls; a text that is read takes up to 152 of them. */
  private static final int LAST_BEGUN = 512 - 152 - 1;
  private static int made = 0;
  private static int wrong = 0;

  /** What a state holds. */
  private static final class State {
    int[][] picture = new int[8][8];
    int[][] patch = new int[4][4];
    boolean[][] in = new boolean[4][4];
    int w = 4, h = 4, px = 2, py = 2, start = 0, order = 0;

    State() { for (boolean[] row : in) Arrays.fill(row, true); }

    State copy() {
      State s = new State();
      for (int y = 0; y < 8; y++) s.picture[y] = picture[y].clone();
      s.patch = new int[h][];
      s.in = new boolean[h][];
      for (int y = 0; y < h; y++) { s.patch[y] = patch[y].clone(); s.in[y] = in[y].clone(); }
      s.w = w; s.h = h; s.px = px; s.py = py; s.start = start; s.order = order;
      return s;
    }

    boolean covered(int x, int y) { return x >= px && x < px + w && y >= py && y < py + h; }
    int over(int x, int y) { return patch[y - py][x - px]; }
    boolean open(int x, int y) {
      return x >= 1 && x <= 6 && y >= 1 && y <= 6 && covered(x, y) && in[y - py][x - px];
    }

    List<int[]> opens() {
      List<int[]> rows = new ArrayList<>();
      for (int y = 0; y < 8; y++) for (int x = 0; x < 8; x++) if (open(x, y)) rows.add(new int[] {x, y});
      if (order == 0) return rows;
      List<int[]> ordered = new ArrayList<>();
      if (order == 2) { for (int[] c : rows) ordered.add(0, c); return ordered; }
      for (int[] c : rows) if (((c[0] + c[1]) & 1) == 0) ordered.add(c);
      for (int[] c : rows) if (((c[0] + c[1]) & 1) == 1) ordered.add(c);
      return ordered;
    }

    float nested(int x, int y) {
      boolean[][] near = new boolean[8][8];
      int bx = x & ~1, by = y & ~1;
      int[][] beside = {{0, 0}, {0, -1}, {-1, 0}, {1, 0}, {0, 1}};
      for (int dy = 0; dy < 2; dy++) for (int dx = 0; dx < 2; dx++) for (int[] d : beside) {
        int a = bx + dx + d[0], b = by + dy + d[1];
        if (a >= 0 && a < 8 && b >= 0 && b < 8) near[b][a] = true;
      }
      float s = 0f;
      int many = 0;
      for (int b = 0; b < 8; b++) for (int a = 0; a < 8; a++) if (near[b][a] && !open(a, b)) { s += picture[b][a]; many++; }
      return many == 0 ? picture[y][x] : s / many;
    }

    float pull(float[][] u, int x, int y) {
      float s = 0f;
      for (int[] d : new int[][] {{0, -1}, {-1, 0}, {1, 0}, {0, 1}}) {
        int a = x + d[0], b = y + d[1];
        s = s + u[b][a];
        if (covered(a, b)) s = s + ((float) over(x, y) - (float) over(a, b));
      }
      return s;
    }

    float[][] blend(int n) {
      float[][] u = new float[8][8];
      for (int y = 0; y < 8; y++) for (int x = 0; x < 8; x++) {
        u[y][x] = picture[y][x];
        if (open(x, y) && start == 1) u[y][x] = over(x, y);
        if (open(x, y) && start == 2) u[y][x] = nested(x, y);
      }
      List<int[]> opens = opens();
      for (int i = 0; i < n; i++) for (int[] c : opens) u[c[1]][c[0]] = pull(u, c[0], c[1]) / 4f;
      return u;
    }

    float worst(int n) {
      float[][] u = blend(n);
      float most = 0f;
      for (int[] c : opens()) most = Math.max(most, Math.abs(pull(u, c[0], c[1]) - 4f * u[c[1]][c[0]]));
      return most;
    }
  }

  private static final class Model {
    private static final Pattern TEXT = Pattern.compile(
        "(?: *(?:[cpi] *[0-9]{1,3} +[0-9]{1,3} +[0-9]{1,3}|[wa] *[0-9]{1,3} +[0-9]{1,3}|[os] *[0-9]{1,3}|r) *;)+ *");
    State now = new State();
    Deque<State> states = new ArrayDeque<>();
    StringBuilder text = new StringBuilder();
    int[] refused = new int[3];

    static boolean in(int v, int least, int most) { return v >= least && v <= most; }
    int bad() { refused[0]++; return -2; }
    void leave(State s) { states.push(s); if (states.size() > 5) states.removeLast(); }
    static int whole(float u) { return (int) Math.max(0L, Math.min(255L, (long) (u + 0.5f))); }

    /** A call that changes the picture or the patch: the answer, or null if it is refused. */
    static Integer change(State s, char which, int a, int b, int c) {
      switch (which) {
        case 'c': {
          if (!in(a, 0, 7) || !in(b, 0, 7) || !in(c, 0, 255)) return null;
          int was = s.picture[b][a]; s.picture[b][a] = c; return was;
        }
        case 'w': {
          if (!in(a, 1, 6) || !in(b, 1, 6)) return null;
          int had = s.w * s.h;
          s.w = a; s.h = b; s.patch = new int[b][a]; s.in = new boolean[b][a];
          for (boolean[] row : s.in) Arrays.fill(row, true);
          return had;
        }
        case 'p': {
          if (!in(a, 0, s.w - 1) || !in(b, 0, s.h - 1) || !in(c, 0, 255)) return null;
          int was = s.patch[b][a]; s.patch[b][a] = c; return was;
        }
        case 'i': {
          if (!in(a, 0, s.w - 1) || !in(b, 0, s.h - 1) || !in(c, 0, 1)) return null;
          int was = s.in[b][a] ? 1 : 0; s.in[b][a] = c == 1; return was;
        }
        case 'a': {
          if (!in(a, 0, 7) || !in(b, 0, 7)) return null;
          s.px = a; s.py = b; return s.opens().size();
        }
        case 't': {
          if (!in(a, 0, 1) || !in(b, 0, 2)) return null;
          int was = a == 0 ? s.start : s.order;
          if (a == 0) s.start = b; else s.order = b;
          return was;
        }
        case 'd': {
          if (!in(a, 0, 1) || !in(b, 0, 999999)) return null;
          long drawn = b;
          int sum = 0;
          int[][] rows = a == 0 ? s.picture : s.patch;
          for (int[] row : rows) for (int x = 0; x < row.length; x++) {
            drawn = (drawn * 1103515245L + 12345L) & 0x7fffffffL;
            row[x] = (int) (drawn >>> 16) & 255;
            sum += row[x];
          }
          return sum;
        }
        default: {
          if (!in(a, 0, 40)) return null;
          float[][] u = s.blend(a);
          int others = 0;
          for (int y = 0; y < 8; y++) for (int x = 0; x < 8; x++) {
            if (s.picture[y][x] != whole(u[y][x])) others++;
            s.picture[y][x] = whole(u[y][x]);
          }
          return others;
        }
      }
    }

    int changes(char which, int a, int b, int c) {
      State before = now.copy();
      Integer answer = change(now, which, a, b, c);
      if (answer == null) return bad();
      leave(before);
      return answer;
    }

    int at(int x, int y, int what) {
      if (!in(x, 0, 7) || !in(y, 0, 7) || !in(what, 0, 2)) return bad();
      if (what == 0) return now.picture[y][x];
      if (what == 1) return now.open(x, y) ? 1 : 0;
      return now.covered(x, y) ? now.over(x, y) : -1;
    }

    int blends(int n, int x, int y) {
      if (!in(n, 0, 40) || !in(x, 0, 7) || !in(y, 0, 7)) return bad();
      return Float.floatToIntBits(now.blend(n)[y][x]);
    }

    int worst(int n) { return in(n, 0, 40) ? Float.floatToIntBits(now.worst(n)) : bad(); }

    int settles(int b) {
      if (!in(b, 1, 9999)) return bad();
      for (int n = 0; n <= 40; n++) if (now.worst(n) < (float) b / 1000f) return n;
      return -1;
    }

    int wholeAt(int n, int x, int y) {
      if (!in(n, 0, 40) || !in(x, 0, 7) || !in(y, 0, 7)) return bad();
      return whole(now.blend(n)[y][x]);
    }

    int rest(int n, int x, int y, int m) {
      if (!in(n, 0, 40) || !in(x, 0, 7) || !in(y, 0, 7) || !in(m, 1, 99)) return bad();
      return Float.floatToIntBits(now.blend(n)[y][x] % (float) m);
    }

    int sums(int n, int what) {
      if (!in(n, 0, 40) || !in(what, 0, 2)) return bad();
      float[][] u = now.blend(n);
      int[] wholes = now.opens().stream().mapToInt(c -> whole(u[c[1]][c[0]])).toArray();
      if (what == 0) return Arrays.stream(wholes).sum();
      return what == 1 ? Arrays.stream(wholes).min().orElse(-1) : Arrays.stream(wholes).max().orElse(-1);
    }

    int type(int c) {
      if (!in(c, 0, 127)) return bad();
      if (text.length() == 150) { refused[2]++; return -4; }
      return text.append((char) c).length();
    }

    int clear() { int had = text.length(); text.setLength(0); return had; }

    /** The fault: the first place up to which no text that is right begins so. */
    int fault() {
      for (int i = 0; i < text.length(); i++) {
        Matcher m = TEXT.matcher(text.substring(0, i + 1));
        if (!m.matches() && !m.hitEnd()) return i;
      }
      return TEXT.matcher(text).matches() ? -1 : text.length();
    }

    int reads() {
      int fault = fault();
      if (fault >= 0) return -10 - fault;
      State before = now.copy();
      String[] told = text.toString().split(";");
      int done = 0;
      for (String one : told) {
        if (one.isBlank()) continue;
        char letter = one.trim().charAt(0);
        String[] parts = one.trim().substring(1).trim().split(" +");
        int[] v = new int[3];
        for (int i = 0; i < parts.length && !parts[0].isEmpty(); i++) v[i] = Integer.parseInt(parts[i]);
        Integer answer = letter == 'o' ? change(now, 't', 1, v[0], 0)
            : letter == 's' ? change(now, 't', 0, v[0], 0)
            : letter == 'r' ? change(now, 'k', 40, 0, 0)
            : change(now, letter, v[0], v[1], v[2]);
        if (answer == null) { now = before; return -1000 - done; }
        done++;
      }
      leave(before);
      return done;
    }

    int back() {
      if (states.isEmpty()) { refused[1]++; return -3; }
      now = states.pop();
      return states.size();
    }

    int told(int what) {
      if (!in(what, 0, 11)) return bad();
      return new int[] {refused[0], refused[1], refused[2], text.length(), now.w, now.h, now.px, now.py, now.start, now.order,
          now.opens().size(), states.size()}[what];
    }

    long digest() {
      long h = 2539;
      for (int i = 0; i < 12; i++) h = 31 * h + told(i);
      for (int y = 0; y < 8; y++) for (int x = 0; x < 8; x++) for (int k = 0; k < 3; k++) h = 31 * h + at(x, y, k);
      for (int y = 0; y < now.h; y++) for (int x = 0; x < now.w; x++) h = 31 * (31 * h + now.patch[y][x]) + (now.in[y][x] ? 1 : 0);
      h = 31 * h + worst(0);
      h = 31 * h + worst(3);
      h = 31 * h + settles(500);
      return 31 * h + sums(5, 0);
    }
  }

  /** Draws arguments: most within the told range, some just beyond it, a few far away. */
  private static int arg(Random r, int least, int most) {
    int kind = r.nextInt(60);
    if (kind == 0) return least - 1;
    if (kind == 1) return most + 1;
    if (kind == 2) return r.nextInt();
    if (kind < 8) return least;
    if (kind < 14) return most;
    return least + r.nextInt(most - least + 1);
  }

  private static String order(Random r) {
    String gap = r.nextInt(5) == 0 ? "  " : " ";
    String lead = r.nextInt(6) == 0 ? " " : "";
    int far = r.nextInt(25) == 0 ? 1 : 0;
    switch (r.nextInt(8)) {
      case 0: return lead + "c" + r.nextInt(8 + far) + gap + r.nextInt(8) + gap + r.nextInt(256 + 40 * far) + lead + ";";
      case 1: return "w" + lead + (1 + r.nextInt(6 + far)) + gap + (1 + r.nextInt(6)) + ";";
      case 2: return lead + "p" + r.nextInt(3 + far) + gap + r.nextInt(3) + gap + r.nextInt(256) + ";" + lead;
      case 3: return "i" + r.nextInt(3) + gap + r.nextInt(3 + far) + gap + r.nextInt(2 + far) + ";";
      case 4: return "a" + r.nextInt(8 + far) + gap + r.nextInt(8) + ";";
      case 5: return "o" + lead + r.nextInt(3 + far) + ";";
      case 6: return "s" + r.nextInt(3 + far) + lead + ";";
      default: return "r" + lead + ";";
    }
  }

  private static String text(Random r) {
    StringBuilder s = new StringBuilder();
    int many = r.nextInt(6);
    for (int i = 0; i < many; i++) s.append(order(r));
    String signs = "cwpiaosr;  0129q\u0000\u007f/:";
    if (s.length() > 0 && r.nextInt(3) == 0) {
      int where = r.nextInt(s.length());
      if (r.nextBoolean()) s.deleteCharAt(where);
      else s.insert(where, signs.charAt(r.nextInt(signs.length())));
    }
    return s.toString();
  }

  private static void due(int run, String call, long got, long want) {
    made++;
    if (got != want && wrong++ < 40) System.out.println("run " + run + ": " + call + " answered " + got + ", due is " + want);
  }

  private static void readsText(int run, Random r, BlendedPatch b, Model m) {
    due(run, "clear", b.clear(), m.clear());
    String t = text(r);
    for (int i = 0; i < t.length(); i++) due(run, "type", b.type(t.charAt(i)), m.type(t.charAt(i)));
    due(run, "reads of '" + t + "'", b.reads(), m.reads());
  }

  private static void call(int run, Random r, BlendedPatch b, Model m) {
    int x = arg(r, 0, 7), y = arg(r, 0, 7), v = arg(r, 0, 255), n = arg(r, 0, 40);
    int kind = r.nextInt(22);
    switch (kind) {
      case 0: due(run, "cell", b.cell(x, y, v), m.changes('c', x, y, v)); break;
      case 1: { int w = arg(r, 1, 6), h = arg(r, 1, 6); due(run, "sizes", b.sizes(w, h), m.changes('w', w, h, 0)); break; }
      case 2: { int a = arg(r, 0, 4), c = arg(r, 0, 4); due(run, "patch", b.patch(a, c, v), m.changes('p', a, c, v)); break; }
      case 3: { int a = arg(r, 0, 4), c = arg(r, 0, 4), is = arg(r, 0, 1); due(run, "inside", b.inside(a, c, is), m.changes('i', a, c, is)); break; }
      case 4: due(run, "lies", b.lies(x, y), m.changes('a', x, y, 0)); break;
      case 5: { int a = arg(r, 0, 1), c = arg(r, 0, 2); due(run, "sets", b.sets(a, c), m.changes('t', a, c, 0)); break; }
      case 6: { int a = arg(r, 0, 1), c = arg(r, 0, 999999); due(run, "draws", b.draws(a, c), m.changes('d', a, c, 0)); break; }
      case 7: { int a = arg(r, 0, 2); due(run, "at", b.at(x, y, a), m.at(x, y, a)); break; }
      case 8: case 9: due(run, "blends", b.blends(n, x, y), m.blends(n, x, y)); break;
      case 10: due(run, "worst", b.worst(n), m.worst(n)); break;
      case 11: { int a = arg(r, 1, 9999); due(run, "settles", b.settles(a), m.settles(a)); break; }
      case 12: due(run, "whole", b.whole(n, x, y), m.wholeAt(n, x, y)); break;
      case 13: { int a = arg(r, 1, 99); due(run, "rest", b.rest(n, x, y, a), m.rest(n, x, y, a)); break; }
      case 14: { int a = arg(r, 0, 2); due(run, "sums", b.sums(n, a), m.sums(n, a)); break; }
      case 15: due(run, "keeps", b.keeps(n), m.changes('k', n, 0, 0)); break;
      case 16: { int a = arg(r, 0, 127); due(run, "type", b.type(a), m.type(a)); break; }
      case 17: due(run, "reads", b.reads(), m.reads()); break;
      case 18: case 19: readsText(run, r, b, m); break;
      case 20: due(run, "back", b.back(), m.back()); break;
      default: { int a = arg(r, 0, 11); due(run, "told", b.told(a), m.told(a)); break; }
    }
  }

  public static void main(String[] args) {
    for (int run = 0; run < RUNS; run++) {
      Random r = new Random(run);
      BlendedPatch b = new BlendedPatch();
      Model m = new Model();
      made = 0;
      for (int i = 0; i < CALLS && made < LAST_BEGUN; i++) {
        call(run, r, b, m);
        if (i % 40 == 39) due(run, "digest", b.digest(), m.digest());
      }
    }
    System.out.println(wrong == 0 ? "all drawn runs are as the model's" : wrong + " answers are not as the model's");
    if (wrong != 0) System.exit(1);
  }
}
