import java.io.IOException;
import java.lang.reflect.InvocationTargetException;
import java.lang.reflect.Method;
import java.nio.file.Files;
import java.nio.file.Path;
import java.util.Arrays;
import java.util.HashMap;
import java.util.List;
import java.util.Map;

// A test of its own for each sentence of the document that names a boundary case: too small, too large,
// empty, full, a wrap-around, a refused call. A test is the sentence, quoted, and rows of calls on a new object:
//
//   cell 0 0 255 = 0      the call, and the answer that is due: a number, or a float (2.5f, 7/10f) for its bits
//   cell 0 0 256 BAD      the call is refused (BAD, NO, FULL)
//   text |r; |            the text is cleared, then these bytes are typed
//
// Behind each row it is looked whether the call changed just what it may: a refused one how often, a question or
// a text that is not done nothing at all, a call told S leaves one state (5 at most).
public final class BoundariesTest {
  private static final Path DOCUMENT = Path.of("..", "shared", "DOC.md");
  private static final int MOST_CALLS = 512;
  private static final List<String> REFUSALS = List.of("BAD", "NO", "FULL");
  private static final List<String> STATE_CALLS =
      List.of("cell", "sizes", "patch", "inside", "lies", "sets", "draws", "keeps", "reads");
  private static final List<String> QUESTIONS =
      List.of("at", "blends", "worst", "settles", "whole", "rest", "sums", "told", "digest");
  private static final Map<String, Method> CALLS = new HashMap<>();
  private static final int LOW = Integer.MIN_VALUE;
  private static final int HIGH = Integer.MAX_VALUE;
  /** The document, to look its sentences up; null where it does not lie beside the checkout. */
  private static String document = null;
  private static int tests = 0;
  private static int wrong = 0;

  /** The calls of one test on one object. */
  private static final class Run {
    private final String sentence;
    private final BlendedPatch b = new BlendedPatch();
    private int calls = 0;

    Run(String sentence) {
      this.sentence = sentence;
      if (document != null && !document.contains(sentence)) fails("the document does not say so");
    }

    void fails(String why) {
      wrong++;
      System.out.println("'" + sentence + "': " + why);
    }

    void due(String what, long got, long want) {
      if (got != want) fails(what + " answered " + got + ", due is " + want);
    }

    long call(String name, int... args) {
      calls++;
      if (calls == MOST_CALLS + 1) fails("more than 512 calls on one object");
      try {
        return ((Number) CALLS.get(name).invoke(b, Arrays.stream(args).boxed().toArray())).longValue();
      } catch (InvocationTargetException e) {
        fails(name + " " + Arrays.toString(args) + " threw " + e.getCause());
        return Long.MIN_VALUE;
      } catch (IllegalAccessException e) {
        throw new IllegalStateException(e);
      }
    }

    void rows(String rows) {
      rows.lines().forEach(this::row);
    }

    void row(String row) {
      if (row.startsWith("text |")) {
        text(row.substring(6, row.lastIndexOf('|')));
        return;
      }
      String[] words = row.split(" +");
      String last = words[words.length - 1];
      boolean refused = REFUSALS.contains(last);
      int end = words.length - (refused ? 1 : 2);
      int[] args = Arrays.stream(words, 1, end).mapToInt(Integer::parseInt).toArray();
      if (refused) refused(row, last, words[0], args);
      else answered(row, answer(last), words[0], args);
    }

    void text(String bytes) {
      call("clear");
      for (int i = 0; i < bytes.length(); i++) due("type " + (int) bytes.charAt(i), call("type", bytes.charAt(i)), i + 1);
    }

    /** The digest is a sum in which each told number has a weight, so one that changes alone is seen in it. */
    long weightOfTold(int what) {
      long behind = 11 - what + 3 * 64 + 2 * call("told", 4) * call("told", 5) + 4;
      long weight = 1;
      for (long i = 0; i < behind; i++) weight *= 31;
      return weight;
    }

    void refused(String row, String how, String name, int... args) {
      int which = REFUSALS.indexOf(how);
      long before = call("digest");
      due(row, call(name, args), -2 - which);
      due(row + ", how much else changed", call("digest") - before, weightOfTold(which));
    }

    void answered(String row, long want, String name, int... args) {
      long before = call("digest");
      long states = call("told", 11);
      long got = call(name, args);
      due(row, got, want);
      long change = call("digest") - before;
      boolean notDone = name.equals("reads") && got < 0;
      if (QUESTIONS.contains(name) || notDone) due(row + ", what changed", change, 0);
      else if (STATE_CALLS.contains(name)) due(row + ", states", call("told", 11), Math.min(5, states + 1));
      if (name.equals("type")) due(row + ", what changed but the text", change, weightOfTold(3));
      if (name.equals("clear")) due(row + ", what changed but the text", change, -got * weightOfTold(3));
    }
  }

  private static long answer(String word) {
    if (!word.endsWith("f")) return Long.parseLong(word);
    int by = word.indexOf('/');
    float v = by < 0 ? Float.parseFloat(word) : Float.parseFloat(word.substring(0, by)) / Float.parseFloat(word.substring(by + 1));
    return Float.floatToIntBits(v);
  }

  private static Run test(String sentence) {
    tests++;
    return new Run(sentence);
  }

  private static void holds(String sentence, String rows) {
    test(sentence).rows(rows);
  }

  /** A number that has a told range: the ends are taken, what is just beyond or far beyond is refused. */
  private static void range(String sentence, String first, String call, int place, int least, int most) {
    String[] words = call.split(" ");
    int[] args = Arrays.stream(words, 1, words.length).mapToInt(Integer::parseInt).toArray();
    for (int v : new int[] {least, most}) {
      Run run = test(sentence);
      run.rows(first);
      int[] taken = args.clone();
      taken[place] = v;
      run.call(words[0], taken);
      run.due(words[0] + " " + Arrays.toString(taken) + " is taken, told(0)", run.call("told", 0), 0);
    }
    Run run = test(sentence);
    run.rows(first);
    for (int v : new int[] {least - 1, most + 1, LOW, HIGH}) {
      int[] beyond = args.clone();
      beyond[place] = v;
      run.refused(words[0] + " " + Arrays.toString(beyond), "BAD", words[0], beyond);
    }
  }

  private static void ranges() {
    String cells = "8 by 8 CELLS x, y (0 .. 7 each)";
    for (String call : List.of("cell 3 3 1", "at 3 3 0")) {
      range(cells, "", call, 0, 0, 7);
      range(cells, "", call, 1, 0, 7);
    }
    for (String call : List.of("blends 1 3 3", "whole 1 3 3", "rest 1 3 3 5")) {
      range(cells, "", call, 1, 0, 7);
      range(cells, "", call, 2, 0, 7);
    }
    range("a VALUE each (0 .. 255; 0 at first). THE PATCH", "", "cell 3 3 1", 2, 0, 255);
    String sides = "w by h CELLS (1 .. 6 each; 4 by 4 at first)";
    range(sides, "", "sizes 2 3", 0, 1, 6);
    range(sides, "", "sizes 2 3", 1, 1, 6);
    for (int w = 1; w <= 6; w++) {
      String sizes = "sizes " + w + " " + (7 - w) + " = 16";
      range(sides, sizes, "patch 0 0 1", 0, 0, w - 1);
      range(sides, sizes, "patch 0 0 1", 1, 0, 6 - w);
      range(sides, sizes, "inside 0 0 1", 0, 0, w - 1);
      range(sides, sizes, "inside 0 0 1", 1, 0, 6 - w);
    }
    range("a VALUE each (0 .. 255; 0 at first), each IN or not", "", "patch 3 3 1", 2, 0, 255);
    range("A CELL of THE PATCH is IN (1) or not (0)", "", "inside 3 3 1", 2, 0, 1);
    range("CELL px, py of THE PICTURE (0 .. 7 each; 2, 2 at first)", "", "lies 3 3", 0, 0, 7);
    range("CELL px, py of THE PICTURE (0 .. 7 each; 2, 2 at first)", "", "lies 3 3", 1, 0, 7);
    String sets = "START (what 0: 0 .. 2), ORDER (1: 0 .. 2; both 0 at first)";
    range(sets, "", "sets 0 1", 0, 0, 1);
    range(sets, "", "sets 0 1", 1, 0, 2);
    range(sets, "", "sets 1 1", 1, 0, 2);
    range("VALUES of THE PICTURE (which 0) or THE PATCH (1) are drawn", "", "draws 0 5", 0, 0, 1);
    range("X is SEED (0 .. 999999)", "", "draws 0 5", 1, 0, 999999);
    range("X is SEED (0 .. 999999)", "", "draws 1 5", 1, 0, 999999);
    range("VALUE (what 0), OPEN (1: 1, 0), VALUE of THE PATCH there (2; NONE: none lies there)", "", "at 3 3 0", 2, 0, 2);
    for (String call : List.of("blends 1 3 3", "worst 1", "whole 1 3 3", "rest 1 3 3 5", "sums 1 0", "keeps 1")) {
      range("from START, n (0 .. 40) SWEEPS by ORDER", "", call, 0, 0, 40);
    }
    range("SETTLES by a bound b (1 .. 9999, in 1000ths)", "", "settles 500", 0, 1, 9999);
    range("by m (1 .. 99, as a float) what is left over", "", "rest 1 3 3 5", 3, 1, 99);
    range("together (what 0), the least (1), the greatest (2)", "", "sums 1 0", 1, 0, 2);
    range("A byte (0 .. 127) comes behind THE TEXT", "", "type 32", 0, 0, 127);
    range("How often refused: BAD (0), NO (1), FULL (2)", "", "told 5", 0, 0, 11);
  }

  private static void picture() {
    holds("8 by 8 CELLS x, y (0 .. 7 each)", """
        cell 0 0 1 = 0
        cell 7 0 2 = 0
        cell 0 7 3 = 0
        cell 7 7 4 = 0
        cell -1 1 9 BAD
        cell 8 6 9 BAD
        cell 8 7 9 BAD
        at 0 0 0 = 1
        at 7 0 0 = 2
        at 0 7 0 = 3
        at 7 7 0 = 4
        blends 40 7 0 = 2f
        whole 40 0 7 = 3
        rest 40 7 7 3 = 1f""");
    Run first = test("a VALUE each (0 .. 255; 0 at first). THE PATCH");
    for (int c = 0; c < 64; c++) first.due("at first", first.call("at", c % 8, c / 8, 0), 0);
    holds("a VALUE each (0 .. 255; 0 at first). THE PATCH", """
        cell 5 2 255 = 0
        cell 5 2 256 BAD
        cell 5 2 -1 BAD
        at 5 2 0 = 255
        at 2 5 0 = 0
        cell 5 2 0 = 255
        at 5 2 0 = 0""");
  }

  private static void patchAndWhereItLies() {
    holds("w by h CELLS (1 .. 6 each; 4 by 4 at first)", """
        told 4 = 4
        told 5 = 4
        patch 3 3 1 = 0
        patch 4 3 1 BAD
        patch 3 4 1 BAD
        sizes 1 1 = 16
        patch 0 0 1 = 0
        patch 1 0 1 BAD
        patch 0 1 1 BAD
        sizes 6 6 = 1
        patch 5 5 1 = 0
        patch 6 5 1 BAD
        patch 5 6 1 BAD
        told 4 = 6
        told 5 = 6
        sizes 6 7 BAD
        sizes 0 6 BAD
        patch 5 5 2 = 1""");
    Run first = test("a VALUE each (0 .. 255; 0 at first), each IN or not (IN at first)");
    for (int c = 0; c < 16; c++) {
      first.due("value at first", first.call("patch", c % 4, c / 4, 255), 0);
      first.due("in at first", first.call("inside", c % 4, c / 4, 0), 1);
      first.due("value then", first.call("patch", c % 4, c / 4, 0), 255);
      first.due("not in then", first.call("inside", c % 4, c / 4, 1), 0);
    }
    holds("CELL px, py of THE PICTURE (0 .. 7 each; 2, 2 at first)", """
        told 6 = 2
        told 7 = 2
        patch 0 0 9 = 0
        at 2 2 2 = 9
        lies 7 0 = 0
        at 7 0 2 = 9
        lies 0 7 = 0
        at 0 7 2 = 9
        lies 8 0 BAD
        at 0 7 2 = 9
        told 6 = 0
        told 7 = 7""");
    beyond();
    opens();
  }

  private static void beyond() {
    holds("what is beyond counts for nothing", """
        sizes 6 6 = 16
        patch 0 0 7 = 0
        patch 1 1 8 = 0
        lies 7 7 = 0
        told 10 = 0
        at 7 7 2 = 7
        at 0 0 2 = -1
        at 7 0 2 = -1
        at 0 7 2 = -1
        at 6 6 2 = -1
        sums 40 0 = 0
        keeps 40 = 0
        lies 6 6 = 1
        at 6 6 2 = 7
        at 7 7 2 = 8
        at 0 7 2 = -1
        at 0 0 2 = -1""");
    Run hidden = test("what is beyond counts for nothing");
    hidden.rows("sizes 6 6 = 16\nlies 6 6 = 1");
    for (int c = 0; c < 36; c++) if (c % 6 > 1 || c / 6 > 1) hidden.call("patch", c % 6, c / 6, 255);
    hidden.rows("""
        blends 1 6 6 = 0f
        worst 0 = 0f
        patch 1 0 100 = 0
        blends 1 6 6 = -25f
        patch 2 0 9 = 255
        blends 1 6 6 = -25f
        blends 0 6 6 = 0f
        lies 1 1 = 36
        at 3 1 2 = 9
        at 6 6 2 = 255""");
  }

  private static int overlap(int at, int wide) {
    return Math.max(0, Math.min(6, at + wide - 1) - Math.max(1, at) + 1);
  }

  private static void opens() {
    String sentence = "OPEN is a CELL of THE PICTURE with x and y 1 .. 6 on which a CELL of THE PATCH lies that is IN";
    for (int w = 1; w <= 6; w++) {
      for (int h = 1; h <= 6; h++) {
        Run run = test(sentence);
        run.call("sizes", w, h);
        for (int p = 0; p < 64; p++) {
          int want = overlap(p % 8, w) * overlap(p / 8, h);
          String where = w + " by " + h + " at " + p % 8 + " " + p / 8;
          run.due("lies, " + where, run.call("lies", p % 8, p / 8), want);
          run.due("told 10, " + where, run.call("told", 10), want);
        }
      }
    }
    for (int p = 0; p < 64; p++) {
      Run run = test(sentence);
      int x = p % 8, y = p / 8;
      int want = x >= 1 && x <= 6 && y >= 1 && y <= 6 ? 1 : 0;
      run.rows("sizes 1 1 = 16");
      run.due("one cell at " + x + " " + y, run.call("lies", x, y), want);
      for (int c = 0; c < 64; c++) run.due("open " + c + " of " + p, run.call("at", c % 8, c / 8, 1), c == p ? want : 0);
      run.rows("inside 0 0 0 = 1\ntold 10 = 0\nat " + x + " " + y + " 1 = 0\nat " + x + " " + y + " 2 = 0");
    }
  }

  private static void starts() {
    String others = "of one that is not OPEN its VALUE in THE PICTURE";
    for (int start = 0; start <= 2; start++) {
      holds(others, """
          sizes 6 6 = 16
          lies 0 0 = 25
          patch 0 0 200 = 0
          patch 3 3 100 = 0
          inside 3 3 0 = 1
          cell 0 0 7 = 0
          cell 3 3 8 = 0
          cell 7 7 255 = 0
          sets 0 %d = 0
          blends 0 0 0 = 7f
          blends 40 0 0 = 7f
          blends 0 3 3 = 8f
          blends 40 3 3 = 8f
          blends 40 7 7 = 255f
          whole 40 3 3 = 8""".formatted(start));
    }
    holds("START of OPEN ones: 0 their VALUE in THE PICTURE; 1 that of THE PATCH there; 2 NEST", """
        sizes 1 1 = 16
        cell 2 2 255 = 0
        patch 0 0 254 = 0
        cell 3 2 110 = 0
        blends 0 2 2 = 255f
        sets 0 1 = 0
        blends 0 2 2 = 254f
        blends 0 3 2 = 110f
        sets 0 2 = 1
        blends 0 2 2 = 10f
        whole 0 2 2 = 10
        sets 0 3 BAD
        blends 0 2 2 = 10f
        at 2 2 0 = 255
        at 2 2 2 = 254""");
    nest();
  }

  /** Whether a cell is of the block that begins at the even left and top, or beside one of its cells over a side. */
  private static boolean near(int c, int left, int top) {
    int x = c % 8, y = c / 8;
    boolean column = x == left || x == left + 1, row = y == top || y == top + 1;
    return column && row || column && (y == top - 1 || y == top + 2) || row && (x == left - 1 || x == left + 2);
  }

  private static void nest() {
    String block = "of the 2 by 2 CELLS of its block (blocks begin at even x, y) and all CELLS beside one of these over a side";
    for (int y = 1; y <= 6; y++) {
      for (int x = 1; x <= 6; x++) {
        int many = 0;
        for (int c = 0; c < 64; c++) if (near(c, x & 6, y & 6)) many++;
        Run run = test(block);
        run.rows("sizes 1 1 = 16\nsets 0 2 = 0\nlies " + x + " " + y + " = 1");
        for (int c = 0; c < 64; c++) {
          boolean counts = near(c, x & 6, y & 6) && c != 8 * y + x;
          run.call("cell", c % 8, c / 8, 255);
          float want = counts ? 255f / (many - 1) : 0f;
          run.due("of " + x + " " + y + ", cell " + c, run.call("blends", 0, x, y), Float.floatToIntBits(want));
          run.call("cell", c % 8, c / 8, 0);
        }
      }
    }
    holds("those that are not OPEN: a float s is 0f", """
        sizes 2 2 = 16
        sets 0 2 = 0
        cell 2 2 255 = 0
        cell 3 3 255 = 0
        cell 4 3 4 = 0
        blends 0 2 2 = 4/8f
        inside 1 1 0 = 1
        blends 0 2 2 = 259/9f
        sizes 3 2 = 4
        blends 0 2 2 = 0f""");
    holds("s by how many they are, as a float", """
        sizes 1 1 = 16
        sets 0 2 = 0
        cell 1 2 100 = 0
        cell 4 3 1 = 0
        blends 0 2 2 = 101/11f
        lies 1 1 = 1
        cell 1 2 0 = 100
        cell 0 0 250 = 0
        cell 2 0 3 = 0
        blends 0 1 1 = 253/7f""");
    holds("if there are none its VALUE in THE PICTURE", """
        sizes 6 6 = 16
        lies 1 1 = 36
        sets 0 2 = 0
        cell 3 3 50 = 0
        cell 1 1 99 = 0
        cell 4 4 99 = 0
        cell 1 4 99 = 0
        cell 4 1 99 = 0
        blends 0 3 3 = 50f
        blends 0 2 2 = 0f
        blends 0 4 4 = 99f
        inside 0 3 0 = 1
        blends 0 3 3 = 50f
        inside 0 2 0 = 1
        blends 0 3 3 = 0f""");
  }

  private static void pulls() {
    String beside = "for the CELL above, to the left, to the right, below: s becomes s and U of that";
    for (int y = 1; y <= 6; y++) {
      for (int x = 1; x <= 6; x++) {
        Run run = test(beside);
        run.rows("sizes 1 1 = 16\nlies " + x + " " + y + " = 1\npatch 0 0 255 = 0");
        for (int c = 0; c < 64; c++) {
          boolean pulls = Math.abs(c % 8 - x) + Math.abs(c / 8 - y) == 1;
          run.call("cell", c % 8, c / 8, 255);
          run.due("at " + x + " " + y + ", cell " + c, run.call("blends", 1, x, y), Float.floatToIntBits(pulls ? 63.75f : 0f));
          run.call("cell", c % 8, c / 8, 0);
        }
      }
    }
    String patchToo = "then, if a CELL of THE PATCH lies on that, too (IN or not)";
    for (int in = 0; in <= 1; in++) {
      for (int at : new int[] {0, 2, 5}) {
        for (int c = 0; c < 9; c++) patchBeside(patchToo, in, at, c);
      }
    }
    noPatchBeside(patchToo);
    // In no other order of the four, with no other order of U and the difference, and with no sum of doubles
    // does this come to the same bits.
    holds("s becomes s and (VALUE of THE PATCH here, as a float, less VALUE of THE PATCH there, as a float)", """
        draws 0 82 = %d
        draws 1 83 = %d
        blends 8 3 3 = 1119383391""".formatted(drawn(82, 64), drawn(83, 16)));
  }

  /** A patch of 3 by 3 with its middle at 1, 2 or 6 each way, and so upon the rim, and one other value among its cells. */
  private static void patchBeside(String sentence, int in, int at, int c) {
    Run run = test(sentence);
    run.rows("sizes 3 3 = 16\nlies " + at + " " + at + " = " + overlap(at, 3) * overlap(at, 3));
    for (int i = 0; i < 9; i++) if (i != 4) run.call("inside", i % 3, i / 3, in);
    run.call("sets", 1, c < 4 ? 2 : 0);
    for (int v : new int[] {255, 1}) {
      run.call("patch", c % 3, c / 3, v);
      float want = c == 4 ? 4 * v / 4f : c % 2 == 1 ? -v / 4f : 0f;
      // With all others out the middle has no one else's U beside it.
      if (in == 0) run.due("middle, other " + c, run.call("blends", 1, at + 1, at + 1), Float.floatToIntBits(want));
      run.due("left over, other " + c, run.call("worst", 0), Float.floatToIntBits(leftOf(in, at, c, v)));
    }
  }

  /** The greatest difference that the cells of a patch of 3 by 3, all 0 but for one, make at one that is open. */
  private static float leftOf(int in, int at, int other, int v) {
    int most = 0;
    for (int c = 0; c < 9; c++) {
      int x = at + c % 3, y = at + c / 3;
      if (c != 4 && (in == 0 || x < 1 || x > 6 || y < 1 || y > 6)) continue;
      int sum = 0;
      for (int d = 0; d < 9; d++) {
        if (Math.abs(c % 3 - d % 3) + Math.abs(c / 3 - d / 3) == 1) sum += (c == other ? v : 0) - (d == other ? v : 0);
      }
      most = Math.max(most, Math.abs(sum));
    }
    return most;
  }

  /** Beside the patch's own edge there is no difference, not even against the row above or below. */
  private static void noPatchBeside(String sentence) {
    holds(sentence, """
        sizes 6 2 = 16
        lies 1 1 = 12
        patch 0 1 255 = 0
        sets 1 2 = 0
        blends 1 6 1 = 0f
        patch 0 1 0 = 255
        patch 5 0 255 = 0
        sets 1 0 = 2
        blends 1 1 2 = 0f""");
    holds(sentence, """
        sizes 1 1 = 16
        patch 0 0 255 = 0
        blends 1 2 2 = 0f
        worst 0 = 0f
        sizes 1 6 = 1
        patch 0 0 255 = 0
        worst 0 = 255f
        blends 1 2 2 = 63.75f""");
  }

  private static int drawn(long x, int many) {
    int sum = 0;
    for (int i = 0; i < many; i++) {
      x = (x * 1103515245L + 12345L) & 0x7fffffffL;
      sum += (int) (x >> 16) & 255;
    }
    return sum;
  }

  /** Of any two open cells side by side it is told which comes first: the other takes from it what it has then. */
  private static void orders() {
    String sentence = "ORDER: 0 rows from above, in each from the left; 1 so those with x and y together even, then so the others; "
        + "2 as 0 the other way round";
    for (int order = 0; order <= 2; order++) {
      for (int c = 0; c < 72; c++) {
        int x = 1 + c % 6, y = 1 + c / 6 % 6, dx = c / 36, dy = 1 - dx;
        if (x + dx > 6 || y + dy > 6) continue;
        boolean first = order == 0 || order == 1 && (x + y) % 2 == 0;
        Run run = test(sentence);
        run.call("sizes", 1 + dx, 1 + dy);
        run.call("lies", x, y);
        run.call("sets", 1, order);
        run.call("cell", x, y, 64);
        String where = "order " + order + ", " + x + " " + y + " and " + (x + dx) + " " + (y + dy);
        run.due(where + ", the one", run.call("blends", 1, x, y), Float.floatToIntBits(first ? 0f : 4f));
        run.due(where + ", the other", run.call("blends", 1, x + dx, y + dy), Float.floatToIntBits(first ? 0f : 16f));
      }
    }
    holds("A SWEEP: each OPEN CELL in order: U becomes PULL by 4f", """
        sizes 6 6 = 16
        lies 1 1 = 36
        inside 5 5 0 = 1
        cell 7 6 4 = 0
        cell 6 6 100 = 0
        cell 0 1 4 = 0
        blends 1 1 1 = 1f
        blends 1 6 6 = 100f
        blends 1 7 6 = 4f""");
  }

  private static void leftOver() {
    holds("the float PULL less (4f times U), without sign", """
        sizes 1 1 = 16
        cell 2 2 255 = 0
        worst 0 = 1020f
        cell 2 2 0 = 255
        cell 2 1 255 = 0
        worst 0 = 255f
        cell 2 2 64 = 0
        worst 0 = 1f
        worst 1 = 0f""");
    holds("WORST: the greatest LEFT (0f, if there is none)", """
        lies 7 7 = 0
        draws 0 5 = %d
        worst 0 = 0f
        worst 40 = 0f
        settles 1 = 0
        sums 0 0 = 0""".formatted(drawn(5, 64)));
    Run greatest = test("WORST: the greatest LEFT (0f, if there is none)");
    greatest.rows("sizes 6 6 = 16\nlies 1 1 = 36");
    for (int c = 0; c < 36; c++) {
      greatest.call("cell", 1 + c % 6, 1 + c / 6, 10);
      greatest.due("the one at " + c, greatest.call("worst", 0), Float.floatToIntBits(40f));
      greatest.call("cell", 1 + c % 6, 1 + c / 6, 0);
    }
    greatest.rows("cell 0 0 255 = 0\nworst 0 = 0f");
  }

  /** An object with every cell open, where 39 sweeps and 40 tell another whole number. */
  private static String slow(int seed) {
    return "sizes 6 6 = 16\nlies 1 1 = 36\ndraws 0 " + seed + " = " + drawn(seed, 64)
        + "\ndraws 1 " + (seed + 1) + " = " + drawn(seed + 1, 36) + "\n";
  }

  private static void blendOfN() {
    holds("from START, n (0 .. 40) SWEEPS by ORDER: U as it is then", slow(9) + """
        whole 39 3 4 = 175
        whole 40 3 4 = 174
        blends 39 3 4 = 174.50179f
        blends 40 3 4 = 174.49858f
        rest 40 3 4 87 = 0.49858093f
        sums 39 0 = 3777
        sums 40 0 = 3776
        blends 41 3 4 BAD
        blends 40 3 4 = 174.49858f""");
    holds("from START, n (0 .. 40) SWEEPS by ORDER: U as it is then", """
        cell 2 2 255 = 0
        blends 0 2 2 = 255f
        worst 0 = 1020f
        whole 0 2 2 = 255
        rest 0 2 2 99 = 57f
        sums 0 0 = 255
        sums 0 1 = 0
        sums 0 2 = 255
        keeps 0 = 0
        at 2 2 0 = 255
        blends -1 2 2 BAD""");
  }

  private static void settles() {
    String least = "the least n of 0 to 40 behind which WORST is less than (the float b by 1000f); none";
    Run never = test(least);
    never.rows("sizes 6 6 = 16\nlies 1 1 = 36\nsets 0 1 = 0");
    for (int c = 0; c < 36; c++) never.call("patch", c % 6, c / 6, 255);
    // WORST is 0.0568.. behind 39, 0.04617.. behind 40, and would be 0.037.. behind 41.
    never.rows("""
        worst 39 = 0.056884795f
        worst 40 = 0.046175957f
        settles 57 = 39
        settles 56 = 40
        settles 47 = 40
        settles 46 = -1
        settles 38 = -1
        settles 1 = -1
        settles 0 BAD
        settles 10000 BAD""");
    holds(least, """
        settles 1 = 0
        sizes 1 1 = 16
        cell 2 2 2 = 0
        settles 8000 = 1
        settles 8001 = 0
        settles 9999 = 0
        settles 1 = 1
        cell 2 2 3 = 2
        settles 9999 = 1""");
    // WORST is just 2.1f, which is less than 2.1 as a double.
    holds("WORST is less than (the float b by 1000f)", """
        sizes 2 1 = 16
        cell 4 3 7 = 0
        sets 0 2 = 0
        blends 0 2 2 = 7/10f
        worst 0 = 2.1f
        settles 2100 = 1
        settles 2101 = 0""");
  }

  private static void wholes() {
    // A patch of 3 by 3 of which the middle alone is in: U is (those around, and 4 times its value) by 4.
    String middle = "sizes 3 3 = 16\nlies 1 1 = 9\ntext |i0 0 0;i1 0 0;i2 0 0;i0 1 0;i2 1 0;i0 2 0;i1 2 0;i2 2 0;|\nreads = 8\n";
    holds("U and 0.5f, made a whole number (cut)", middle + """
        cell 2 1 1 = 0
        whole 1 2 2 = 0
        cell 2 1 2 = 1
        blends 1 2 2 = 0.5f
        whole 1 2 2 = 1
        cell 2 1 5 = 2
        whole 1 2 2 = 1
        cell 2 1 6 = 5
        whole 1 2 2 = 2""");
    // U is the float just below 0.5f: as floats it comes to 1 with 0.5f, as doubles it would not.
    holds("U and 0.5f, made a whole number (cut)", """
        sizes 3 3 = 16
        cell 2 5 8 = 0
        blends 25 3 3 = 0.49999997f
        whole 25 3 3 = 1""");
    holds("0 at least, 255 at most", middle + """
        patch 1 0 2 = 0
        blends 1 2 2 = -0.5f
        whole 1 2 2 = 0
        patch 1 0 7 = 2
        blends 1 2 2 = -1.75f
        whole 1 2 2 = 0
        patch 1 0 255 = 7
        patch 0 1 255 = 0
        patch 2 1 255 = 0
        patch 1 2 255 = 0
        blends 1 2 2 = -255f
        whole 1 2 2 = 0
        sums 1 0 = 0
        keeps 1 = 0
        at 2 2 0 = 0""");
    holds("0 at least, 255 at most", middle + """
        cell 2 1 255 = 0
        cell 1 2 255 = 0
        cell 3 2 255 = 0
        cell 2 3 253 = 0
        blends 1 2 2 = 254.5f
        whole 1 2 2 = 255
        cell 2 3 252 = 253
        blends 1 2 2 = 254.25f
        whole 1 2 2 = 254
        cell 2 3 255 = 252
        whole 1 2 2 = 255
        patch 1 1 1 = 0
        blends 1 2 2 = 256f
        whole 1 2 2 = 255
        patch 1 1 255 = 1
        blends 1 2 2 = 510f
        whole 1 2 2 = 255
        sums 1 0 = 255
        sums 1 1 = 255
        sums 1 2 = 255
        keeps 1 = 1
        at 2 2 0 = 255""");
  }

  private static void restsAndSums() {
    holds("by m (1 .. 99, as a float) what is left over, as bits", """
        sizes 1 1 = 16
        cell 2 1 101 = 0
        blends 1 2 2 = 25.25f
        rest 1 2 2 1 = 0.25f
        rest 1 2 2 25 = 0.25f
        rest 1 2 2 26 = 25.25f
        rest 1 2 2 99 = 25.25f
        rest 1 2 2 0 BAD
        rest 1 2 2 100 BAD
        cell 7 7 255 = 0
        rest 0 7 7 85 = 0f
        rest 0 7 7 99 = 57f
        rest 0 0 0 1 = 0f""");
    holds("by m (1 .. 99, as a float) what is left over, as bits", """
        sizes 2 1 = 16
        inside 1 0 0 = 1
        patch 1 0 60 = 0
        blends 1 2 2 = -15f
        rest 1 2 2 4 = -3f
        rest 1 2 2 14 = -1f
        rest 1 2 2 16 = -15f
        rest 1 2 2 15 = -0f
        rest 1 2 2 1 = -0f""");
    holds("NONE (1, 2): there is none", """
        sizes 1 1 = 16
        cell 2 2 9 = 0
        sums 0 0 = 9
        sums 0 1 = 9
        sums 0 2 = 9
        inside 0 0 0 = 1
        sums 0 0 = 0
        sums 0 1 = -1
        sums 0 2 = -1
        inside 0 0 1 = 0
        lies 0 3 = 0
        sums 40 0 = 0
        sums 40 1 = -1
        sums 40 2 = -1
        sums 40 3 BAD""");
    Run every = test("the least (1), the greatest (2)");
    every.rows("sizes 6 6 = 16\nlies 1 1 = 36");
    for (int c = 0; c < 36; c++) every.call("cell", 1 + c % 6, 1 + c / 6, 100);
    for (int c = 0; c < 36; c++) {
      every.call("cell", 1 + c % 6, 1 + c / 6, 0);
      every.due("least at " + c, every.call("sums", 0, 1), 0);
      every.call("cell", 1 + c % 6, 1 + c / 6, 255);
      every.due("greatest at " + c, every.call("sums", 0, 2), 255);
      every.due("together with " + c, every.call("sums", 0, 0), 3755);
      every.call("cell", 1 + c % 6, 1 + c / 6, 100);
    }
    every.rows("cell 0 0 255 = 0\nsums 0 2 = 100\nsums 0 0 = 3600");
  }

  private static void draws() {
    String drawn = "X becomes X times 1103515245 and 12345, by 2147483648 what is left over";
    for (int seed : new int[] {0, 1, 999998, 999999}) {
      Run run = test(drawn);
      run.due("picture of " + seed, run.call("draws", 0, seed), drawn(seed, 64));
      run.due("patch of " + seed, run.call("draws", 1, seed), drawn(seed, 16));
      run.call("sizes", 6, 6);
      run.due("greatest patch of " + seed, run.call("draws", 1, seed), drawn(seed, 36));
      run.call("sizes", 1, 1);
      run.due("least patch of " + seed, run.call("draws", 1, seed), drawn(seed, 1));
    }
    holds(drawn, """
        draws 0 0 = %d
        at 0 0 0 = 0
        at 1 0 0 = 220
        draws 0 1 = %d
        at 0 0 0 = 198
        draws 0 1000000 BAD
        draws 0 -1 BAD
        at 0 0 0 = 198""".formatted(drawn(0, 64), drawn(1, 64)));
  }

  private static void sizesAnew() {
    holds("THE PATCH is w by h, all VALUES 0, all IN: how many CELLS it had", """
        patch 3 3 255 = 0
        inside 3 3 0 = 1
        patch 0 0 255 = 0
        inside 0 0 0 = 1
        sizes 4 4 = 16
        patch 3 3 1 = 0
        inside 3 3 0 = 1
        told 10 = 15
        sizes 1 1 = 16
        sizes 6 6 = 1
        patch 3 3 5 = 0
        inside 3 3 0 = 1
        sizes 6 6 = 36
        patch 3 3 5 = 0
        sizes 6 1 = 36
        sizes 1 6 = 6
        sizes 7 6 BAD
        sizes 6 0 BAD
        told 4 = 1
        told 5 = 6""");
  }

  private static void keeps() {
    holds("THE PICTURE becomes WHOLE of a BLEND of n SWEEPS: how many VALUES are others then", slow(9) + """
        keeps 40 = 36
        at 3 4 0 = 174
        back = 4
        keeps 39 = 36
        at 3 4 0 = 175
        keeps 41 BAD
        keeps -1 BAD
        at 3 4 0 = 175""");
    holds("THE PICTURE becomes WHOLE of a BLEND of n SWEEPS: how many VALUES are others then", """
        keeps 40 = 0
        sizes 6 6 = 16
        lies 1 1 = 36
        cell 0 3 255 = 0
        sets 1 2 = 0
        keeps 1 = 3
        at 1 3 0 = 64
        at 1 2 0 = 16
        at 1 1 0 = 4
        at 0 3 0 = 255
        keeps 0 = 0""");
  }

  private static void typing() {
    holds("A byte (0 .. 127) comes behind THE TEXT: how many it has", """
        told 3 = 0
        type 0 = 1
        type 127 = 2
        type 128 BAD
        type -1 BAD
        told 3 = 2""");
    Run full = test("THE TEXT (150 bytes at most)");
    for (int i = 1; i <= 149; i++) full.due("byte " + i, full.call("type", 'r'), i);
    full.rows("""
        type 59 = 150
        told 3 = 150
        type 59 FULL
        type 0 FULL
        type 128 BAD
        type -1 BAD
        told 0 = 2
        told 2 = 2
        reads = -11
        told 3 = 150
        clear = 150
        clear = 0
        type 114 = 1
        told 2 = 2
        told 11 = 0""");
    holds("THE TEXT is empty: how many it had", """
        clear = 0
        reads = -10
        text |r;|
        clear = 2
        told 3 = 0
        reads = -10
        type 59 = 1
        reads = -10""");
  }

  /** Texts with the answers that are due, all on objects of their own. */
  private static void reads(String sentence, Object... textsAndAnswers) {
    for (int i = 0; i < textsAndAnswers.length; i += 2) {
      Run run = test(sentence);
      String text = (String) textsAndAnswers[i];
      run.rows("cell 7 7 9 = 0");
      run.text(text);
      run.answered("reads of '" + text + "'", (Integer) textsAndAnswers[i + 1], "reads");
      run.due("refused by '" + text + "'", run.call("told", 0) + run.call("told", 1) + run.call("told", 2), 0);
      run.due("it stays", run.call("told", 3), text.length());
      run.answered("reads again of '" + text + "'", (Integer) textsAndAnswers[i + 1], "reads");
    }
  }

  private static void forms() {
    reads("tells ORDERS of its own, each ended by ;", "c1 2 3;", 1, "w2 3;", 1, "p3 3 3;", 1, "i3 3 1;", 1, "a7 7;", 1, "o2;", 1,
        "s2;", 1, "r;", 1, "r;r;", 2, "r", -11, "r;r", -13, "c1 2 3", -16, "w2 3", -14, "p3 3 3", -16, "i3 3 1", -16, "a7 7", -14,
        "o2", -12, "s2", -12, "rr;", -11, "o2s2;", -12, ";", -10, "r;;", -12, ";r;", -10);
    reads("c x y v (as cell)", "c0 0 0;", 1, "c7 7 255;", 1, "c8 7 255;", -1000, "c7 8 255;", -1000, "c7 7 256;", -1000,
        "c;", -11, "c7;", -12, "c7 7;", -14, "c7 7 7 7;", -17);
    reads("w w h (as sizes)", "w1 1;", 1, "w6 6;", 1, "w0 1;", -1000, "w1 0;", -1000, "w7 6;", -1000, "w6 7;", -1000,
        "w;", -11, "w1;", -12, "w1 1 1;", -15);
    reads("p x y v (as patch)", "p0 0 0;", 1, "p3 3 255;", 1, "p4 3 255;", -1000, "p3 4 255;", -1000, "p3 3 256;", -1000,
        "w6 6;p5 5 5;", 2, "w6 5;p5 5 5;", -1001, "w1 1;p0 0 5;", 2, "w1 1;p1 0 5;", -1001, "w1 1;p0 1 5;", -1001,
        "p;", -11, "p3;", -12, "p3 3;", -14, "p3 3 3 3;", -17);
    reads("i x y v (as inside)", "i0 0 0;", 1, "i3 3 1;", 1, "i4 3 1;", -1000, "i3 4 1;", -1000, "i3 3 2;", -1000,
        "i;", -11, "i3;", -12, "i3 3;", -14, "i3 3 1 1;", -17);
    reads("a x y (as lies)", "a0 0;", 1, "a7 7;", 1, "a8 7;", -1000, "a7 8;", -1000, "a;", -11, "a7;", -12, "a7 7 7;", -15);
    reads("o v (as sets 1), s v (as sets 0)", "o0;", 1, "o2;", 1, "o3;", -1000, "s0;", 1, "s2;", 1, "s3;", -1000,
        "o;", -11, "s;", -11, "o1 1;", -13, "s1 1;", -13);
    holds("o v (as sets 1), s v (as sets 0)", """
        text |o2;|
        reads = 1
        told 8 = 0
        told 9 = 2
        text |s1;|
        reads = 1
        told 8 = 1
        told 9 = 2""");
    reads("r (THE PICTURE becomes WHOLE of BLEND of 40 SWEEPS)", "r ;", 1, "r0;", -11, "r 40;", -12, "R;", -10);
    holds("r (THE PICTURE becomes WHOLE of BLEND of 40 SWEEPS)", slow(9) + """
        text |r;|
        reads = 1
        at 3 4 0 = 174""");
    // Here 40 sweeps and one more would tell another whole number.
    holds("r (THE PICTURE becomes WHOLE of BLEND of 40 SWEEPS)", slow(34) + """
        text |r;|
        reads = 1
        at 4 1 0 = 61""");
  }

  private static void numbersAndBlanks() {
    reads("Numbers have 1 to 3 figures", "c0 0 5;", 1, "c00 00 05;", 1, "c000 000 005;", 1, "c007 007 255;", 1, "o002;", 1,
        "c0000 0 5;", -14, "c0 0000 5;", -16, "c0 0 0005;", -18, "o0002;", -14, "o999;", -1000, "c999 999 999;", -1000,
        "w0001 1;", -14, "c 0 0 2550;", -19);
    holds("Numbers have 1 to 3 figures", """
        text |c007 6 012;c6 07 250;|
        reads = 2
        at 7 6 0 = 12
        at 6 7 0 = 250""");
    reads("blanks (32) may stand anywhere but within a number", " c 1 2 3 ; ", 1, "   c   1   2   3   ;   r   ;   ", 2, "c1 2 3; r;", 2,
        "o 2;", 1, "o2 ;", 1, "r ;r; ", 2, "c1 2 2 5;", -17, "o0 2;", -13, "w1 2 3;", -15, "\tr;", -10, "r\n;", -11, "o\u00002;", -11,
        "c1\t2 3;", -12, "c1,2 3;", -12, "r;\u007f", -12);
    reads("needed only between two numbers", "c1 2 3;w2 2;p1 1 9;i1 1 0;a3 3;o1;s2;r;", 8, "c123;", -14, "w22;", -13, "w11 1;", -1000);
  }

  private static void faults() {
    reads("the place of the first byte that can not stand there (a fourth figure, too)", "q", -10, "q;", -10, "C1 2 3;", -10, "1;", -10,
        " q", -11, "r;q;", -12, "r;r;r; c", -18, "c-1 2 3;", -11, "c1 -2 3;", -13, "c+1 2 3;", -11, "c1.5 2 3;", -12, "cc", -11, "c1c", -12,
        "c1 2 3c", -16, "c1 2 3 c", -17, "o/", -11, "o:", -11, "o1/", -12, "o1:", -12, "o1234", -14, "c1 2 3456", -18, "q1234", -10,
        "c1 2 3;\u0000", -17, "r\u007f", -11, "o1`", -12, "b;", -10, "d;", -10);
    reads("the TEXT's length, if it ends too early (an empty one, one of blanks alone, too)", "", -10, " ", -11, "  ", -12,
        "c", -11, "c ", -12, "c1", -12, "c1 ", -13, "c1 2", -14, "c1 2 ", -15, "c1 2 3", -16, "c1 2 3 ", -17, "c1 2 345", -18,
        "r;c", -13, "r; c1 ", -16, "r", -11, "r ", -12, "w", -11, "w1", -12, "o", -11, "o123", -14);
    Run blanks = test("the TEXT's length, if it ends too early (an empty one, one of blanks alone, too)");
    blanks.text(" ".repeat(150));
    blanks.rows("reads = -160");
    blanks.text(" ".repeat(149) + "r");
    blanks.rows("reads = -160");
    blanks.text(" ".repeat(149) + "q");
    blanks.rows("reads = -159");
    Run last = test("-10 less the FAULT");
    last.text(" ".repeat(148) + "r;");
    last.rows("reads = 1");
    last.text("r;".repeat(74) + "r ");
    last.rows("reads = -160");
    last.text("r;".repeat(74) + "r:");
    last.rows("reads = -159");
    holds("If there is one, nothing is done", """
        draws 0 3 = %d
        text |c0 0 0;w1 1;p0 0 5;i0 0 0;a0 0;o1;s1;r;x|
        reads = -49
        text |c0 0 0;r;|
        reads = 2
        back = 1
        text |r;r|
        reads = -13
        told 11 = 1""".formatted(drawn(3, 64)));
    // A fault counts before an order that would be refused, wherever it stands.
    reads("If there is one, nothing is done", "c8 0 0;q", -17, "w0 0;w1 1", -19, "o9;o", -14);
  }

  private static void stops() {
    reads("One that its call would refuse stops all: nothing is done", "c1 1 1;c8 1 1;", -1001, "o3;o1;", -1000, "o1;o3;o4;", -1001,
        "w1 1;p0 0 5;a1 1;o1;s1;r;c0 0 9;i1 0 0;", -1007, "w2 2;p2 2 1;", -1001, "w4 4;p3 3 1;w2 2;", 3, "a8 0;c8 0 0;", -1000);
    Run order = test("-1000 less the number (0 on) of the one that stops all");
    order.text("r;".repeat(73) + "o9;");
    order.rows("reads = -1073");
    order.text("r;".repeat(73) + "o2; ");
    order.rows("reads = 74\ntold 9 = 2");
    Run most = test("What THE TEXT tells is done (it stays): how many ORDERS of its own");
    most.text("r;".repeat(75));
    most.rows("type 114 FULL\nreads = 75\ntold 3 = 150\nreads = 75\ntold 11 = 2");
    holds("By what THE TEXT tells, by a FAULT of it nothing counts", """
        text |c8 8 8;|
        reads = -1000
        text |c8 8 8|
        reads = -16
        text |sizes;|
        reads = -11
        told 0 = 0
        told 1 = 0
        told 2 = 0
        told 11 = 0""");
    holds("S (one STATE for all)", """
        text |w1 1;a3 3;c0 0 5;o1;s1;p0 0 7;|
        reads = 6
        told 11 = 1
        back = 0
        told 4 = 4
        told 6 = 2
        told 8 = 0
        told 9 = 0
        at 0 0 0 = 0
        told 3 = 30
        reads = 6
        at 3 3 2 = 7""");
  }

  private static void states() {
    holds("leaves one, also if nothing changes by it, to go back to", """
        cell 0 0 0 = 0
        sizes 4 4 = 16
        patch 0 0 0 = 0
        inside 0 0 1 = 1
        lies 2 2 = 16
        told 11 = 5
        back = 4
        back = 3
        back = 2
        back = 1
        back = 0
        back NO
        sets 0 0 = 0
        sets 1 0 = 0
        keeps 40 = 0
        text |r;|
        reads = 1
        told 11 = 4
        draws 0 5 = %d
        draws 0 5 = %d
        told 11 = 5""".formatted(drawn(5, 64), drawn(5, 64)));
    for (String row : List.of("cell 1 1 9", "sizes 2 3", "patch 1 2 9", "inside 1 2 0", "lies 5 1", "sets 0 2", "sets 1 1",
        "draws 0 77", "draws 1 77", "keeps 3", "reads")) {
      goesBack(row);
    }
    holds("5 at most, older ones lost", """
        cell 0 0 1 = 0
        cell 0 0 2 = 1
        cell 0 0 3 = 2
        cell 0 0 4 = 3
        cell 0 0 5 = 4
        told 11 = 5
        cell 0 0 6 = 5
        told 11 = 5
        back = 4
        at 0 0 0 = 5
        back = 3
        back = 2
        back = 1
        back = 0
        at 0 0 0 = 1
        back NO
        at 0 0 0 = 1""");
    Run around = test("5 at most, older ones lost");
    for (int v = 1; v <= 60; v++) {
      around.call("cell", 0, 0, v);
      if (v % 7 == 0) {
        around.due("back at " + v, around.call("back"), 4);
        around.due("value then", around.call("at", 0, 0, 0), v - 1);
      }
    }
    around.rows("told 11 = 5\nback = 4\nat 0 0 0 = 59\nback = 3\nat 0 0 0 = 58\nback = 2\nat 0 0 0 = 57\nback = 1\nat 0 0 0 = 55\n"
        + "back = 0\nat 0 0 0 = 54\nback NO");
    holds("A STATE back: how many can be yet. NO: none", """
        back NO
        told 1 = 1
        cell 0 0 1 = 0
        back = 0
        back NO
        back NO
        told 1 = 3
        told 11 = 0
        cell 0 0 9 = 0
        cell 0 0 8 = 9
        back = 1
        cell 0 0 7 = 9
        back = 1
        at 0 0 0 = 9
        back = 0
        at 0 0 0 = 0""");
    allOfAState();
    refusals();
  }

  /** A call that changes something is gone as if it had not been, and then can be made again. */
  private static void goesBack(String row) {
    Run run = test("each call told S, if it is not refused, leaves one, also if nothing changes by it, to go back to");
    run.rows("draws 0 5 = " + drawn(5, 64) + "\ndraws 1 6 = " + drawn(6, 16) + "\ntext |i1 1 0;a3 1;r;|");
    String[] words = row.split(" ");
    int[] args = Arrays.stream(words, 1, words.length).mapToInt(Integer::parseInt).toArray();
    long before = run.call("digest");
    long answer = run.call(words[0], args);
    long behind = run.call("digest");
    run.due(row + ", a state more", run.call("told", 11), 3);
    run.due(row + ", back", run.call("back"), 2);
    run.due(row + ", as before", run.call("digest"), before);
    run.due(row + ", again", run.call(words[0], args), answer);
    run.due(row + ", as behind it", run.call("digest"), behind);
    run.due(row + ", changes something", behind == before ? 1 : 0, 0);
  }

  private static void allOfAState() {
    holds("(all but THE TEXT and how often refused)", """
        text |c0 0 4;w3 2;p2 1 5;i0 1 0;a4 5;o2;s1;|
        reads = 7
        cell 0 0 9 = 4
        type 128 BAD
        text |c0 0 5|
        sizes 6 6 = 6
        back = 2
        at 0 0 0 = 9
        told 4 = 3
        told 5 = 2
        at 6 6 2 = 5
        at 4 6 1 = 0
        told 6 = 4
        told 7 = 5
        told 8 = 1
        told 9 = 2
        told 3 = 6
        told 0 = 1
        back = 1
        at 0 0 0 = 4
        back = 0
        at 0 0 0 = 0
        told 4 = 4
        told 5 = 4
        told 6 = 2
        told 7 = 2
        told 8 = 0
        told 9 = 0
        told 10 = 16
        told 3 = 6
        told 0 = 1
        back NO
        told 1 = 1""");
    holds("(all but THE TEXT and how often refused)", """
        draws 0 5 = %d
        draws 1 6 = %d
        keeps 40 = 16
        back = 2
        sums 0 0 = %d
        back = 1
        at 2 2 2 = 0
        at 5 5 2 = 0
        back = 0
        at 2 2 0 = 0
        at 7 7 0 = 0""".formatted(drawn(5, 64), drawn(6, 16), middleOfDrawn(5)));
  }

  /** What the sixteen cells in the middle of a drawn picture come to. */
  private static int middleOfDrawn(int seed) {
    int sum = 0;
    for (int c = 0; c < 64; c++) {
      boolean middle = c % 8 >= 2 && c % 8 <= 5 && c / 8 >= 2 && c / 8 <= 5;
      if (middle) sum += drawn(seed, c + 1) - drawn(seed, c);
    }
    return sum;
  }

  private static void refusals() {
    // What the states hold is the same behind calls that were refused, with no state, some and five.
    for (int many : new int[] {0, 2, 5}) {
      Run run = test("Refused (a question, too), changing nothing but how often");
      for (int v = 1; v <= many; v++) run.call("cell", 0, 0, v);
      run.rows("""
          cell 8 8 8 BAD
          sizes 0 0 BAD
          patch 4 4 4 BAD
          inside 0 0 2 BAD
          lies 8 8 BAD
          sets 2 0 BAD
          draws 2 0 BAD
          at 0 0 3 BAD
          blends 41 0 0 BAD
          worst 41 BAD
          settles 0 BAD
          whole 0 0 8 BAD
          rest 0 0 0 0 BAD
          sums 0 3 BAD
          keeps 41 BAD
          type 128 BAD
          told 12 BAD
          told 0 = 17""");
      for (int v = many - 1; v >= 0; v--) run.rows("back = " + v + "\nat 0 0 0 = " + v);
      run.rows("back NO\ntold 0 = 17\ntold 1 = 1");
    }
    // However many numbers are wrong, it is refused once.
    holds("BAD -2 a number is not as told", """
        cell -1 -1 -1 BAD
        sizes 0 7 BAD
        patch 9 9 999 BAD
        inside -5 4 7 BAD
        lies 9 9 BAD
        sets 5 5 BAD
        draws 5 -5 BAD
        at 9 9 9 BAD
        blends 99 99 99 BAD
        whole -9 -9 -9 BAD
        rest 99 99 99 999 BAD
        sums 99 99 BAD
        told 0 = 12""");
    Run first = test("the first of: BAD -2 a number is not as told; NO -3 as told; FULL -4 as told");
    for (int i = 0; i < 150; i++) first.call("type", 32);
    first.rows("""
        type 128 BAD
        type -1 BAD
        type 127 FULL
        type 0 FULL
        back NO
        told 0 = 2
        told 1 = 1
        told 2 = 2""");
  }

  private static void digests() {
    // The digest of a new object, and one whose patch is neither square nor all in: made here from the words alone.
    Run fresh = test("h = 2539; then h = 31 h + v for each v: told(0) to told(11)");
    long h = 2539;
    for (int v : new int[] {0, 0, 0, 0, 4, 4, 2, 2, 0, 0, 16, 0}) h = 31 * h + v;
    for (int c = 0; c < 64; c++) {
      boolean on = c % 8 >= 2 && c % 8 <= 5 && c / 8 >= 2 && c / 8 <= 5;
      h = 31 * (31 * (31 * h) + (on ? 1 : 0)) + (on ? 0 : -1);
    }
    for (int c = 0; c < 16; c++) h = 31 * (31 * h) + 1;
    for (int i = 0; i < 4; i++) h = 31 * h;
    fresh.due("digest", fresh.call("digest"), h);
    Run none = test("of THE PATCH VALUE, IN; worst(0), worst(3); settles(500); sums(5, 0)");
    none.rows("sizes 3 2 = 16\npatch 2 0 9 = 0\npatch 0 1 8 = 0\ninside 1 1 0 = 1\nlies 7 7 = 0");
    h = 2539;
    for (int v : new int[] {0, 0, 0, 0, 3, 2, 7, 7, 0, 0, 0, 5}) h = 31 * h + v;
    for (int c = 0; c < 64; c++) h = 31 * (31 * (31 * h)) + (c == 63 ? 0 : -1);
    for (int v : new int[] {0, 1, 0, 1, 9, 1, 8, 1, 0, 0, 0, 1}) h = 31 * h + v;
    for (int i = 0; i < 4; i++) h = 31 * h;
    none.due("digest", none.call("digest"), h);
    Run one = test("of THE PATCH VALUE, IN; worst(0), worst(3); settles(500); sums(5, 0)");
    one.rows("sizes 2 1 = 16\ncell 3 2 255 = 0");
    // The second begins with 255, and a sweep makes the first a fourth of it and it a fourth of that.
    h = 2539;
    for (int v : new int[] {0, 0, 0, 0, 2, 1, 2, 2, 0, 0, 2, 2}) h = 31 * h + v;
    for (int c = 0; c < 64; c++) {
      boolean on = c == 18 || c == 19;
      h = 31 * (31 * (31 * h + (c == 19 ? 255 : 0)) + (on ? 1 : 0)) + (on ? 0 : -1);
    }
    for (int v : new int[] {0, 1, 0, 1}) h = 31 * h + v;
    float first = 255f / 4f / 256f, second = first / 4f;
    h = 31 * h + Float.floatToIntBits(1020f);
    h = 31 * h + Float.floatToIntBits(4f * first - second);
    one.rows("settles 500 = 4");
    h = 31 * h + 4;
    one.due("digest", one.call("digest"), 31 * h);
  }

  private static void constants() {
    Run run = test("public static final int NONE = -1, BAD = -2, NO = -3, FULL = -4;");
    run.due("NONE", BlendedPatch.NONE, -1);
    run.due("BAD", BlendedPatch.BAD, -2);
    run.due("NO", BlendedPatch.NO, -3);
    run.due("FULL", BlendedPatch.FULL, -4);
  }

  public static void main(String[] args) throws IOException {
    if (Files.exists(DOCUMENT)) document = Files.readString(DOCUMENT);
    for (Method m : BlendedPatch.class.getMethods()) CALLS.put(m.getName(), m);
    constants();
    ranges();
    picture();
    patchAndWhereItLies();
    starts();
    pulls();
    orders();
    leftOver();
    blendOfN();
    settles();
    wholes();
    restsAndSums();
    draws();
    sizesAnew();
    keeps();
    typing();
    forms();
    numbersAndBlanks();
    faults();
    stops();
    states();
    digests();
    System.out.println(wrong == 0 ? tests + " tests of boundary cases hold" : wrong + " answers are not as due");
    if (wrong != 0) System.exit(1);
  }
}
