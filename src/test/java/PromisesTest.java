// Every promise of the document by itself: ordinary inputs, the edges that it names, wrong inputs.
public final class PromisesTest {
  private static int wrong = 0;
  private static int promise = 0;

  private static void due(String what, long got, long want) {
    if (got != want) {
      wrong++;
      System.out.println("promise " + promise + ": " + what + " answered " + got + ", due is " + want);
    }
  }

  private static int bits(float v) {
    return Float.floatToIntBits(v);
  }

  private static void type(BlendedPatch b, String text) {
    for (int i = 0; i < text.length(); i++) b.type(text.charAt(i));
  }

  private static int reads(BlendedPatch b, String text) {
    b.clear();
    type(b, text);
    return b.reads();
  }

  /** One open cell at 2, 2 with 10, 20, 30, 41 above, left, right, below: each sweep makes it 25.25. */
  private static BlendedPatch single() {
    BlendedPatch b = new BlendedPatch();
    b.sizes(1, 1);
    b.cell(2, 1, 10);
    b.cell(1, 2, 20);
    b.cell(3, 2, 30);
    b.cell(2, 3, 41);
    return b;
  }

  /** Two open cells 2, 2 and 3, 2 in a picture of zeros but for 255 at the second. */
  private static BlendedPatch pair() {
    BlendedPatch b = new BlendedPatch();
    b.sizes(2, 1);
    b.cell(3, 2, 255);
    return b;
  }

  /** The digest as the document tells it, from the other calls and what the caller knows of the patch. */
  private static long digestOf(BlendedPatch b, int[] values, int[] in) {
    long h = 2539;
    for (int i = 0; i <= 11; i++) h = 31 * h + b.told(i);
    for (int y = 0; y < 8; y++)
      for (int x = 0; x < 8; x++)
        for (int what = 0; what <= 2; what++) h = 31 * h + b.at(x, y, what);
    for (int i = 0; i < values.length; i++) {
      h = 31 * h + values[i];
      h = 31 * h + in[i];
    }
    h = 31 * h + b.worst(0);
    h = 31 * h + b.worst(3);
    h = 31 * h + b.settles(500);
    return 31 * h + b.sums(5, 0);
  }

  private interface Call { long on(BlendedPatch b); }

  /**
   * A refused call answers so, counts once, and changes nothing else: the digest is a sum in which told(0) has a
   * weight of its own, 31 for each number behind it. So few calls, as an object is promised for 512 alone.
   */
  private static void bad(String what, BlendedPatch b, Call call) {
    long weight = 1;
    int behind = 11 + 3 * 64 + 2 * b.told(4) * b.told(5) + 4;
    for (int i = 0; i < behind; i++) weight *= 31;
    long before = b.digest();
    due(what, call.on(b), BlendedPatch.BAD);
    due(what + ", then all but one more BAD", b.digest() - before, weight);
  }

  private static final int LOW = Integer.MIN_VALUE;
  private static final int HIGH = Integer.MAX_VALUE;

  private static void newObject() {
    promise = 1;
    BlendedPatch b = new BlendedPatch();
    int[] want = {0, 0, 0, 0, 4, 4, 2, 2, 0, 0, 16, 0};
    for (int i = 0; i < want.length; i++) due("told(" + i + ")", b.told(i), want[i]);
    for (int y = 0; y < 8; y++) {
      for (int x = 0; x < 8; x++) {
        boolean on = x >= 2 && x <= 5 && y >= 2 && y <= 5;
        due("at 0", b.at(x, y, 0), 0);
        due("at 1", b.at(x, y, 1), on ? 1 : 0);
        due("at 2", b.at(x, y, 2), on ? 0 : -1);
      }
    }
    due("back", b.back(), -3);
    due("NONE", BlendedPatch.NONE, -1);
    due("BAD", BlendedPatch.BAD, -2);
    due("NO", BlendedPatch.NO, -3);
    due("FULL", BlendedPatch.FULL, -4);
  }

  private static void cell() {
    promise = 2;
    BlendedPatch b = new BlendedPatch();
    due("first", b.cell(0, 0, 255), 0);
    due("again", b.cell(0, 0, 255), 255);
    due("other corner", b.cell(7, 7, 9), 0);
    due("x and y are not one another", b.cell(3, 5, 77), 0);
    due("at 3 5", b.at(3, 5, 0), 77);
    due("at 5 3", b.at(5, 3, 0), 0);
    due("four states", b.told(11), 4);
    int[][] wrongs = {{-1, 0, 0}, {8, 0, 0}, {0, -1, 0}, {0, 8, 0}, {0, 0, -1}, {0, 0, 256}, {LOW, 0, 0}, {0, HIGH, 0}, {0, 0, HIGH}};
    for (int[] w : wrongs) bad("cell " + w[0] + " " + w[1] + " " + w[2], b, o -> o.cell(w[0], w[1], w[2]));
    due("back", b.back(), 3);
    due("as before", b.at(3, 5, 0), 0);
  }

  private static void sizes() {
    promise = 3;
    BlendedPatch b = new BlendedPatch();
    b.patch(0, 0, 5);
    b.inside(0, 0, 0);
    b.inside(3, 3, 0);
    due("16 before", b.sizes(6, 1), 16);
    due("w", b.told(4), 6);
    due("h", b.told(5), 1);
    due("all values 0", b.at(2, 2, 2), 0);
    due("all in", b.told(10), 5);
    due("6 before", b.sizes(1, 6), 6);
    due("open", b.told(10), 5);
    due("6 again", b.sizes(6, 6), 6);
    due("beyond counts for nothing", b.told(10), 25);
    due("lies where it lay", b.told(6) * 10 + b.told(7), 22);
    b.patch(5, 5, 9);
    b.inside(5, 5, 0);
    due("36 before", b.sizes(6, 6), 36);
    due("value 0 again", b.patch(5, 5, 0), 0);
    due("in again", b.inside(5, 5, 1), 1);
    b.patch(5, 5, 9);
    b.inside(0, 5, 0);
    b.sizes(1, 2);
    b.back();
    due("all of it back", b.told(4) * 10 + b.told(5), 66);
    due("its value back", b.patch(5, 5, 8), 9);
    due("who is in back", b.inside(0, 5, 0), 0);
    int[][] wrongs = {{0, 1}, {7, 1}, {1, 0}, {1, 7}, {-1, -1}, {LOW, 2}, {2, HIGH}};
    for (int[] w : wrongs) bad("sizes " + w[0] + " " + w[1], b, o -> o.sizes(w[0], w[1]));
  }

  private static void patch() {
    promise = 4;
    BlendedPatch b = new BlendedPatch();
    b.sizes(3, 2);
    due("first", b.patch(2, 1, 200), 0);
    due("again", b.patch(2, 1, 0), 200);
    due("top", b.patch(1, 0, 255), 0);
    due("it lies there", b.at(3, 2, 2), 255);
    due("the picture stays", b.at(3, 2, 0), 0);
    due("states", b.told(11), 4);
    b.back();
    due("back", b.at(3, 2, 2), 0);
    int[][] wrongs = {{3, 0, 0}, {0, 2, 0}, {-1, 0, 0}, {0, -1, 0}, {0, 0, -1}, {0, 0, 256}, {5, 5, 1}, {HIGH, LOW, 0}};
    for (int[] w : wrongs) bad("patch " + w[0] + " " + w[1] + " " + w[2], b, o -> o.patch(w[0], w[1], w[2]));
  }

  private static void inside() {
    promise = 5;
    BlendedPatch b = new BlendedPatch();
    due("in at first", b.inside(3, 2, 0), 1);
    due("not open", b.at(5, 4, 1), 0);
    due("a value is there yet", b.at(5, 4, 2), 0);
    due("15 open", b.told(10), 15);
    due("out", b.inside(3, 2, 1), 0);
    due("open", b.at(5, 4, 1), 1);
    due("in, no change", b.inside(3, 2, 1), 1);
    due("a state, too", b.told(11), 3);
    int[][] wrongs = {{4, 0, 0}, {0, 4, 0}, {-1, 0, 1}, {0, -1, 1}, {0, 0, 2}, {0, 0, -1}, {LOW, HIGH, 0}};
    for (int[] w : wrongs) bad("inside " + w[0] + " " + w[1] + " " + w[2], b, o -> o.inside(w[0], w[1], w[2]));
  }

  private static void lies() {
    promise = 6;
    BlendedPatch b = new BlendedPatch();
    due("corner", b.lies(0, 0), 9);
    due("at the rim", b.lies(7, 0), 0);
    due("other corner", b.lies(7, 7), 0);
    due("one column", b.lies(6, 3), 4);
    due("px", b.told(6), 6);
    due("py", b.told(7), 3);
    due("one cell", b.lies(6, 6), 1);
    b.inside(0, 0, 0);
    due("the one is not in", b.lies(6, 6), 0);
    int[][] wrongs = {{-1, 0}, {0, -1}, {8, 0}, {0, 8}, {LOW, 0}, {0, HIGH}};
    for (int[] w : wrongs) bad("lies " + w[0] + " " + w[1], b, o -> o.lies(w[0], w[1]));
  }

  private static void sets() {
    promise = 7;
    BlendedPatch b = new BlendedPatch();
    due("start", b.sets(0, 2), 0);
    due("order", b.sets(1, 1), 0);
    due("start again", b.sets(0, 1), 2);
    due("order again", b.sets(1, 2), 1);
    due("told 8", b.told(8), 1);
    due("told 9", b.told(9), 2);
    due("states", b.told(11), 4);
    due("start 0 again", b.sets(0, 0), 1);
    due("order 0 again", b.sets(1, 0), 2);
    due("both", b.told(8) + b.told(9), 0);
    int[][] wrongs = {{-1, 0}, {2, 0}, {0, -1}, {0, 3}, {1, -1}, {1, 3}, {LOW, 1}, {1, HIGH}};
    for (int[] w : wrongs) bad("sets " + w[0] + " " + w[1], b, o -> o.sets(w[0], w[1]));
  }

  private static void draws() {
    promise = 8;
    BlendedPatch b = new BlendedPatch();
    b.sizes(3, 2);
    b.inside(1, 1, 0);
    for (int seed : new int[] {0, 1, 7, 999999}) {
      long drawn = seed;
      int sum = 0;
      int got = b.draws(0, seed);
      for (int c = 0; c < 64; c++) {
        drawn = Long.remainderUnsigned(drawn * 1103515245L + 12345L, 1L << 31);
        int v = (int) (drawn >> 16) & 255;
        due("cell " + c + " of seed " + seed, b.at(c % 8, c / 8, 0), v);
        sum += v;
      }
      due("all together", got, sum);
      drawn = seed;
      sum = 0;
      got = b.draws(1, seed);
      for (int c = 0; c < 6; c++) {
        drawn = Long.remainderUnsigned(drawn * 1103515245L + 12345L, 1L << 31);
        int v = (int) (drawn >> 16) & 255;
        due("patch " + c + " of seed " + seed, b.at(2 + c % 3, 2 + c / 3, 2), v);
        sum += v;
      }
      due("all of the patch together", got, sum);
    }
    due("who is in stays", b.told(10), 5);
    int[][] wrongs = {{-1, 0}, {2, 0}, {0, -1}, {1, 1000000}, {0, LOW}, {HIGH, 5}};
    for (int[] w : wrongs) bad("draws " + w[0] + " " + w[1], b, o -> o.draws(w[0], w[1]));
  }

  private static void at() {
    promise = 9;
    BlendedPatch b = new BlendedPatch();
    b.sizes(6, 6);
    b.patch(0, 0, 11);
    b.patch(2, 1, 12);
    b.lies(0, 0);
    b.cell(0, 0, 3);
    due("value", b.at(0, 0, 0), 3);
    due("the rim is not open", b.at(0, 0, 1), 0);
    due("yet the patch lies there", b.at(0, 0, 2), 11);
    due("inner", b.at(2, 1, 2), 12);
    due("inner open", b.at(2, 1, 1), 1);
    due("beyond the patch", b.at(6, 1, 2), -1);
    due("beyond is not open", b.at(6, 1, 1), 0);
    b.lies(6, 6);
    due("last that is open", b.at(6, 6, 1), 1);
    due("rim", b.at(7, 6, 1) + b.at(6, 7, 1) + b.at(7, 7, 1), 0);
    due("before the patch", b.at(5, 6, 2), -1);
    due("a question leaves no state", b.told(11), 5);
    int[][] wrongs = {{-1, 0, 0}, {8, 0, 0}, {0, -1, 0}, {0, 8, 0}, {0, 0, -1}, {0, 0, 3}, {LOW, HIGH, 1}};
    for (int[] w : wrongs) bad("at " + w[0] + " " + w[1] + " " + w[2], b, o -> o.at(w[0], w[1], w[2]));
  }

  private static void blends() {
    promise = 10;
    BlendedPatch b = single();
    b.cell(2, 2, 99);
    due("start 0", b.blends(0, 2, 2), bits(99f));
    due("one sweep", b.blends(1, 2, 2), bits(25.25f));
    due("forty", b.blends(40, 2, 2), bits(25.25f));
    due("not open", b.blends(40, 2, 3), bits(41f));
    due("a corner", b.blends(3, 7, 7), 0);
    b.patch(0, 0, 200);
    due("nothing of the patch beside", b.blends(1, 2, 2), bits(25.25f));
    b.sets(0, 1);
    due("start 1", b.blends(0, 2, 2), bits(200f));
    b.sets(0, 2);
    // The block is 2..3, 2..3: twelve cells with those beside, all but 2, 2 not open: 10 20 30 41 in eleven.
    due("start 2", b.blends(0, 2, 2), bits(101f / 11f));
    due("the picture stays", b.at(2, 2, 0), 99);
    patchPulls();
    nests();
    orders();
    tiny();
    BlendedPatch c = new BlendedPatch();
    int[][] wrongs = {{-1, 0, 0}, {41, 0, 0}, {0, -1, 0}, {0, 8, 0}, {0, 0, -1}, {0, 0, 8}, {HIGH, LOW, 0}};
    for (int[] w : wrongs) bad("blends " + w[0] + " " + w[1] + " " + w[2], c, o -> o.blends(w[0], w[1], w[2]));
  }

  private static void patchPulls() {
    BlendedPatch b = single();
    b.sizes(2, 2);
    b.patch(0, 0, 7);
    b.patch(1, 0, 4);
    b.patch(0, 1, 255);
    b.inside(1, 0, 0);
    b.inside(0, 1, 0);
    b.inside(1, 1, 0);
    // 10 + 20 + (30 + 7 - 4) + (41 + 7 - 255): the patch beside pulls, in or not.
    due("patch beside", b.blends(1, 2, 2), bits(-36f));
    b.lies(1, 1);
    b.inside(1, 1, 1);
    b.inside(0, 0, 0);
    b.patch(1, 1, 60);
    b.cell(2, 2, 5);
    due("behind one below zero, a start", b.blends(0, 2, 2), bits(5f));
    // Now 2, 2 is the patch's 1, 1: above is 4, left is 255.
    due("above and left", b.blends(1, 2, 2), bits((10f + 56f + 20f - 195f + 30f + 41f) / 4f));
  }

  private static void nests() {
    BlendedPatch b = new BlendedPatch();
    b.sets(0, 2);
    b.sizes(6, 6);
    b.lies(1, 1);
    b.cell(3, 3, 50);
    due("no cell that is not open", b.blends(0, 3, 3), bits(50f));
    b.cell(0, 0, 77);
    b.cell(0, 1, 33);
    b.cell(2, 0, 8);
    due("a corner has five", b.blends(0, 1, 1), bits(118f / 5f));
    b.cell(3, 0, 1);
    b.cell(1, 0, 100);
    // The block 2..3, 0..1: 2, 0 and 3, 0, and beside them 1, 0 and 4, 0, are not open.
    due("an edge has four", b.blends(0, 2, 1), bits(109f / 4f));
    due("the same for its whole block", b.blends(0, 3, 1), bits(109f / 4f));
    b.inside(4, 4, 0);
    b.cell(5, 5, 13);
    // 5, 5 lies in the block 4..5, 4..5 and is the only one of its twelve that is not open.
    due("one within", b.blends(0, 4, 4), bits(13f));
    due("one beside", b.blends(0, 6, 5), bits(13f / 5f));
    b.inside(4, 4, 1);
    b.inside(0, 0, 0);
    b.cell(1, 1, 20);
    // 1, 1 is across a corner of the block 2..3, 2..3, and so does not count there.
    due("not across a corner", b.blends(0, 3, 3), bits(50f));
  }

  private static void orders() {
    BlendedPatch b = new BlendedPatch();
    b.sizes(3, 1);
    b.cell(1, 2, 64);
    due("by rows 2", b.blends(1, 2, 2), bits(16f));
    due("by rows 3", b.blends(1, 3, 2), bits(4f));
    due("by rows 4", b.blends(1, 4, 2), bits(1f));
    b.sets(1, 2);
    due("backwards 2", b.blends(1, 2, 2), bits(16f));
    due("backwards 3", b.blends(1, 3, 2), 0);
    due("backwards, two sweeps", b.blends(2, 3, 2), bits(4f));
    b.sets(1, 1);
    due("even first 2", b.blends(1, 2, 2), bits(16f));
    due("even first 3", b.blends(1, 3, 2), bits(4f));
    due("even first 4", b.blends(1, 4, 2), 0);
    b.sizes(2, 3);
    b.cell(1, 2, 0);
    b.cell(2, 1, 64);
    b.cell(4, 4, 32);
    // First 2, 2 then 3, 3 then 2, 4; behind them 3, 2 then 2, 3 then 3, 4.
    float[][] want = {{16f, 4f}, {4f, 0f}, {0f, 8f}};
    for (int y = 0; y < 3; y++)
      for (int x = 0; x < 2; x++) due("even first, " + x + " " + y, b.blends(1, 2 + x, 2 + y), bits(want[y][x]));
  }

  /** Numbers too small for a float's leading bit, and a zero that is below zero. */
  private static void tiny() {
    BlendedPatch b = pair();
    float first = 0f;
    float second = 255f;
    for (int n = 1; n <= 40; n++) {
      first = second / 4f;
      second = first / 4f;
      due("pair, first, " + n, b.blends(n, 2, 2), bits(first));
      due("pair, second, " + n, b.blends(n, 3, 2), bits(second));
    }
    BlendedPatch c = new BlendedPatch();
    c.sizes(3, 1);
    c.patch(0, 0, 1);
    reads(c, "c2 1 1;c1 2 1;c2 3 1;o2;");
    float left = 0f;
    float middle = 0f;
    float right = 0f;
    boolean negativeZero = false;
    for (int n = 1; n <= 40; n++) {
      right = (0f + middle) / 4f;
      middle = (0f + left - 1f + right) / 4f;
      left = (1f + 1f + middle + 1f + 1f) / 4f;
      negativeZero |= bits(middle) == LOW;
      due("below zero, left, " + n, c.blends(n, 2, 2), bits(left));
      due("below zero, middle, " + n, c.blends(n, 3, 2), bits(middle));
      due("below zero, right, " + n, c.blends(n, 4, 2), bits(right));
      due("its rest, " + n, c.rest(n, 3, 2, 3), bits(middle % 3f));
    }
    due("a zero below zero is among them", negativeZero ? 1 : 0, 1);
  }

  private static void worst() {
    promise = 11;
    BlendedPatch b = single();
    b.cell(2, 2, 99);
    due("start", b.worst(0), bits(295f));
    due("settled", b.worst(1), 0);
    b.cell(2, 2, 0);
    due("the other sign", b.worst(0), bits(101f));
    b.inside(0, 0, 0);
    due("none is open", b.worst(40), 0);
    BlendedPatch p = pair();
    due("the greatest", p.worst(0), bits(1020f));
    due("behind one", p.worst(1), bits(255f / 4f * 4f - 255f / 16f));
    BlendedPatch c = new BlendedPatch();
    for (int n : new int[] {-1, 41, LOW, HIGH}) bad("worst " + n, c, o -> o.worst(n));
  }

  private static void settles() {
    promise = 12;
    BlendedPatch b = single();
    due("one sweep", b.settles(1), 1);
    due("one sweep, the greatest bound", b.settles(9999), 1);
    b.cell(2, 2, 26);
    // LEFT is 101 less 104.
    due("less, not as great as", b.settles(3000), 1);
    due("less", b.settles(3001), 0);
    b.inside(0, 0, 0);
    due("none is open", b.settles(1), 0);
    BlendedPatch c = new BlendedPatch();
    c.sizes(6, 6);
    c.lies(1, 1);
    for (int i = 0; i < 36; i++) c.patch(i % 6, i / 6, 255);
    c.sets(0, 1);
    due("never", c.settles(1), -1);
    due("at the last", c.settles(50), 40);
    due("just not", c.settles(46), -1);
    int n = c.settles(9999);
    due("the least", Float.intBitsToFloat(c.worst(n)) < 9.999f && Float.intBitsToFloat(c.worst(n - 1)) >= 9.999f ? 1 : 0, 1);
    due("questions leave no state", c.told(11), 5);
    for (int w : new int[] {0, -1, 10000, LOW, HIGH}) bad("settles " + w, c, o -> o.settles(w));
  }

  private static void whole() {
    promise = 13;
    BlendedPatch b = single();
    due("25.25", b.whole(1, 2, 2), 25);
    b.cell(2, 3, 42);
    due("25.5", b.whole(1, 2, 2), 26);
    due("not open", b.whole(9, 2, 3), 42);
    b.sizes(2, 1);
    b.inside(1, 0, 0);
    b.patch(1, 0, 255);
    due("0 at least", b.whole(1, 2, 2), 0);
    due("it was far below", b.blends(1, 2, 2), bits((102f - 255f) / 4f));
    b.sizes(3, 3);
    b.lies(1, 1);
    b.patch(1, 1, 255);
    due("255 at most", b.whole(40, 2, 2), 255);
    due("before any sweep", b.whole(0, 2, 2), 0);
    BlendedPatch c = new BlendedPatch();
    int[][] wrongs = {{-1, 0, 0}, {41, 0, 0}, {0, -1, 0}, {0, 8, 0}, {0, 0, -1}, {0, 0, 8}, {LOW, HIGH, 0}};
    for (int[] w : wrongs) bad("whole " + w[0] + " " + w[1] + " " + w[2], c, o -> o.whole(w[0], w[1], w[2]));
  }

  private static void rest() {
    promise = 14;
    BlendedPatch b = single();
    for (int m = 1; m <= 99; m++) due("25.25 by " + m, b.rest(1, 2, 2, m), bits(25.25f % m));
    due("none left over", b.rest(0, 2, 3, 41), 0);
    due("not open", b.rest(0, 2, 3, 40), bits(1f));
    b.sizes(2, 1);
    b.inside(1, 0, 0);
    b.patch(1, 0, 161);
    // 101 - 161 by 4 is -15.
    due("below zero", b.rest(1, 2, 2, 4), bits(-3f));
    due("below zero, none left over", b.rest(1, 2, 2, 5), bits(-0f));
    due("below zero, by more", b.rest(1, 2, 2, 99), bits(-15f));
    BlendedPatch c = new BlendedPatch();
    c.draws(0, 77);
    c.draws(1, 78);
    for (int n = 0; n <= 40; n += 4)
      for (int m = 1; m <= 99; m += 7) {
        float u = Float.intBitsToFloat(c.blends(n, 3, 4));
        due("rest of " + u + " by " + m, c.rest(n, 3, 4, m), bits(u % m));
      }
    int[][] wrongs = {{-1, 0, 0, 1}, {41, 0, 0, 1}, {0, -1, 0, 1}, {0, 8, 0, 1}, {0, 0, -1, 1}, {0, 0, 8, 1}, {0, 0, 0, 0},
        {0, 0, 0, 100}, {0, 0, 0, -1}, {HIGH, LOW, HIGH, LOW}};
    for (int[] w : wrongs) bad("rest " + w[0] + " " + w[1] + " " + w[2] + " " + w[3], c, o -> o.rest(w[0], w[1], w[2], w[3]));
  }

  private static void sums() {
    promise = 15;
    BlendedPatch b = single();
    b.sizes(2, 1);
    b.cell(3, 2, 200);
    b.cell(2, 2, 3);
    due("together", b.sums(0, 0), 203);
    due("least", b.sums(0, 1), 3);
    due("greatest", b.sums(0, 2), 200);
    // 10 + 20 + 200 + 41 by 4 is 67.75, and that by 4 is 16.9375.
    due("together behind one", b.sums(1, 0), 68 + 17);
    due("least behind one", b.sums(1, 1), 17);
    due("greatest behind one", b.sums(1, 2), 68);
    b.lies(7, 7);
    due("none together", b.sums(3, 0), 0);
    due("no least", b.sums(3, 1), -1);
    due("no greatest", b.sums(3, 2), -1);
    int[][] wrongs = {{-1, 0}, {41, 0}, {0, -1}, {0, 3}, {LOW, HIGH}};
    for (int[] w : wrongs) bad("sums " + w[0] + " " + w[1], b, o -> o.sums(w[0], w[1]));
  }

  private static void keeps() {
    promise = 16;
    BlendedPatch b = single();
    due("states", b.told(11), 5);
    due("none is other", b.keeps(0), 0);
    due("one is other", b.keeps(1), 1);
    due("it is kept", b.at(2, 2, 0), 25);
    due("none again", b.keeps(40), 0);
    due("back", b.back(), 4);
    due("yet there", b.at(2, 2, 0), 25);
    b.back();
    due("gone", b.at(2, 2, 0), 0);
    BlendedPatch c = pair();
    due("two", c.keeps(1), 2);
    due("63.75", c.at(2, 2, 0), 64);
    due("15.9", c.at(3, 2, 0), 16);
    for (int n : new int[] {-1, 41, LOW, HIGH}) bad("keeps " + n, c, o -> o.keeps(n));
  }

  private static void typeAndClear() {
    promise = 17;
    BlendedPatch b = new BlendedPatch();
    due("0", b.type(0), 1);
    due("127", b.type(127), 2);
    for (int c : new int[] {-1, 128, LOW, HIGH}) bad("type " + c, b, o -> o.type(c));
    due("no state", b.told(11), 0);
    for (int i = 3; i <= 150; i++) due("byte " + i, b.type(' '), i);
    due("full", b.type(' '), -4);
    due("told 2", b.told(2), 1);
    due("told 3", b.told(3), 150);
    bad("bad comes before full", b, o -> o.type(128));
    promise = 18;
    due("clear", b.clear(), 150);
    due("clear again", b.clear(), 0);
    due("told 3", b.told(3), 0);
    due("no state", b.told(11), 0);
    due("anew", b.type('r'), 1);
  }

  private static void readsWell() {
    promise = 19;
    BlendedPatch b = new BlendedPatch();
    due("c", reads(b, "c1 2 250;"), 1);
    due("c done", b.at(1, 2, 0), 250);
    due("it stays", b.told(3), 9);
    due("c again, the same text", b.reads(), 1);
    due("w", reads(b, "w5 3;"), 1);
    due("w done", b.told(4) * 10 + b.told(5), 53);
    due("p i a o s", reads(b, "p4 2 9;i0 0 0;a1 3;o2;s1;"), 5);
    due("p done", b.at(5, 5, 2), 9);
    due("i done", b.at(1, 3, 1), 0);
    due("a done", b.told(6) * 10 + b.told(7), 13);
    due("s done", b.told(8), 1);
    due("o done", b.told(9), 2);
    due("one state for all", b.told(11), 4);
    BlendedPatch r = single();
    due("r", reads(r, "r;"), 1);
    due("r done", r.at(2, 2, 0), 25);
    due("blanks", reads(r, "  c  0   0  007  ;  r ;   "), 2);
    due("blanks done", r.at(0, 0, 0), 7);
    due("three figures of one number", reads(r, "c000 001 255;"), 1);
    due("their cell", r.at(0, 1, 0), 255);
    due("an order sees those before", reads(r, "w2 2;p1 1 5;c7 7 1;c7 7 2;"), 4);
    due("the last of them", r.at(7, 7, 0), 2);
    StringBuilder most = new StringBuilder();
    for (int i = 0; i < 75; i++) most.append("r;");
    due("75 orders", reads(r, most.toString()), 75);
  }

  /** A text that is not done answers so and changes nothing: on an object of its own, with one open cell. */
  private static void notDone(String text, int want) {
    BlendedPatch b = single();
    type(b, text);
    long before = b.digest();
    due("reads of '" + text + "'", b.reads(), want);
    due("nothing is done, nothing counts by '" + text + "'", b.digest(), before);
  }

  private static void readsFaults() {
    Object[][] faults = {{"", 0}, {" ", 1}, {"   ", 3}, {"q;", 0}, {"R;", 0}, {";", 0}, {"1;", 0}, {"r", 1}, {"r ", 2},
        {"r;;", 2}, {"r;r", 3}, {"r1;", 1}, {"rr;", 1}, {"c1 2;", 4}, {"c1 2 ;", 5}, {"c1 2 3", 6}, {"c1 2 3 4;", 7},
        {"c1 2 1234;", 8}, {"c1234 2 1;", 4}, {"c;", 1}, {"c1,2", 2}, {"c-1 0 0;", 1}, {"w1;", 2}, {"w1 2 3;", 5},
        {"o;", 1}, {"o12 3;", 4}, {"o0", 2}, {"s1 2;", 3}, {"a1 1 1;", 5}, {"p1 1;", 4}, {"i1 1;", 4}, {"r;x", 2},
        {"c0 0 9;q", 7}, {"\t", 0}, {"r\u0000;", 1}, {"c0 0 9\u007f;", 6}, {"o0/", 2}, {"o0:", 2}, {"o/", 1}, {"o:", 1},
        {"w9 9;q", 5}};
    for (Object[] fault : faults) notDone((String) fault[0], -10 - (Integer) fault[1]);
    BlendedPatch b = new BlendedPatch();
    char[] wide = new char[150];
    java.util.Arrays.fill(wide, ' ');
    due("150 blanks", reads(b, new String(wide)), -160);
    wide[149] = 'q';
    due("the last byte", reads(b, new String(wide)), -159);
  }

  private static void readsStops() {
    Object[][] stops = {{"c8 0 0;", 0}, {"c0 8 0;", 0}, {"c0 0 256;", 0}, {"r;w0 1;", 1}, {"c0 0 1;r;w1 7;r;", 2},
        {"w2 2;p2 0 0;", 1}, {"w2 2;p0 2 0;", 1}, {"p0 0 256;", 0}, {"i1 0 0;", 0}, {"i0 0 2;", 0}, {"a8 0;", 0}, {"a0 8;", 0},
        {"o3;", 0}, {"s3;", 0}, {"s2;o2;a0 0;c7 7 9;i0 0 0;p0 0 9;s999;", 6}};
    for (Object[] stop : stops) notDone((String) stop[0], -1000 - (Integer) stop[1]);
    BlendedPatch b = single();
    b.inside(0, 0, 0);
    due("who is in comes back, too", reads(b, "i0 0 1;s9;"), -1001);
    due("it is out", b.inside(0, 0, 0), 0);
  }

  private static void back() {
    promise = 20;
    BlendedPatch b = new BlendedPatch();
    due("none", b.back(), -3);
    due("told 1", b.told(1), 1);
    for (int v = 1; v <= 7; v++) b.cell(0, 0, v);
    due("five states", b.told(11), 5);
    for (int v = 6; v >= 2; v--) {
      due("back to " + v, b.back(), v - 2);
      due("value then", b.at(0, 0, 0), v);
    }
    due("no more", b.back(), -3);
    due("told 1 again", b.told(1), 2);
    due("as it is", b.at(0, 0, 0), 2);
    due("not a state itself", b.told(11), 0);
    b.sizes(2, 3);
    b.lies(4, 5);
    b.sets(0, 2);
    b.sets(1, 1);
    b.inside(1, 2, 0);
    due("all are kept", b.told(11), 5);
    b.draws(1, 3);
    type(b, "abc");
    b.cell(9, 9, 9);
    int drawn = b.at(4, 5, 2);
    b.patch(0, 0, 255);
    b.back();
    due("the patch's value", b.at(4, 5, 2), drawn);
    due("the text stays", b.told(3), 3);
    due("how often stays", b.told(0), 1);
    b.back();
    due("not in", b.inside(1, 2, 0), 0);
    b.back();
    b.back();
    due("in again", b.told(10), 4);
    due("order", b.told(9), 1);
    b.back();
    due("order before", b.told(9), 0);
    due("start", b.told(8), 2);
    due("one more", b.back(), 0);
    due("start before", b.told(8), 0);
    due("px py w h", b.told(6) * 1000 + b.told(7) * 100 + b.told(4) * 10 + b.told(5), 4523);
    due("then none", b.back(), -3);
    backOverReads();
  }

  private static void backOverReads() {
    BlendedPatch b = new BlendedPatch();
    reads(b, "w1 1;a3 4;c0 0 5;");
    due("one state", b.told(11), 1);
    due("back over all", b.back(), 0);
    due("w", b.told(4), 4);
    due("px", b.told(6), 2);
    due("value", b.at(0, 0, 0), 0);
    for (int v = 1; v <= 5; v++) b.cell(0, 0, v);
    due("refused when full of states", b.cell(0, 0, 256), -2);
    due("a stop when full of states", reads(b, "c0 0 9;s3;"), -1001);
    for (int v = 4; v >= 0; v--) {
      b.back();
      due("refused ones lose no state", b.at(0, 0, 0), v);
    }
  }

  private static void told() {
    promise = 21;
    BlendedPatch b = new BlendedPatch();
    b.sizes(2, 3);
    b.lies(5, 6);
    b.sets(0, 2);
    b.sets(1, 1);
    type(b, "xyz");
    b.at(9, 9, 9);
    b.told(-1);
    int[] want = {2, 0, 0, 3, 2, 3, 5, 6, 2, 1, 2, 4};
    for (int i = 0; i < want.length; i++) due("told(" + i + ")", b.told(i), want[i]);
    for (int i = 0; i < 6; i++) b.back();
    due("NO", b.told(1), 2);
    for (int what : new int[] {-1, 12, LOW, HIGH}) bad("told " + what, b, o -> o.told(what));
  }

  private static void digest() {
    promise = 22;
    BlendedPatch fresh = new BlendedPatch();
    int[] values = new int[16];
    int[] in = new int[16];
    java.util.Arrays.fill(in, 1);
    due("new", fresh.digest(), digestOf(fresh, values, in));
    BlendedPatch b = new BlendedPatch();
    b.sizes(3, 2);
    values = new int[] {1, 2, 3, 4, 5, 6};
    in = new int[] {1, 1, 0, 1, 0, 1};
    for (int i = 0; i < 6; i++) {
      b.patch(i % 3, i / 3, values[i]);
      b.inside(i % 3, i / 3, in[i]);
    }
    b.draws(0, 4321);
    b.lies(6, 1);
    type(b, "r;");
    b.cell(8, 8, 8);
    b.back();
    b.lies(2, 4);
    long another = b.digest();
    due("another", another, digestOf(b, values, in));
    due("asking changes nothing", b.digest(), another);
    b.cell(0, 0, 256);
    due("a refusal counts in it", b.digest(), digestOf(b, values, in));
    BlendedPatch slow = new BlendedPatch();
    slow.sizes(6, 6);
    slow.lies(1, 1);
    slow.cell(3, 0, 255);
    slow.cell(3, 3, 255);
    in = new int[36];
    java.util.Arrays.fill(in, 1);
    due("it is not yet settled", slow.sums(4, 0) == slow.sums(5, 0) || slow.sums(6, 0) == slow.sums(5, 0) ? 1 : 0, 0);
    due("one not yet settled", slow.digest(), digestOf(slow, new int[36], in));
  }

  public static void main(String[] args) {
    newObject();
    cell();
    sizes();
    patch();
    inside();
    lies();
    sets();
    draws();
    at();
    blends();
    worst();
    settles();
    whole();
    rest();
    sums();
    keeps();
    typeAndClear();
    readsWell();
    readsFaults();
    readsStops();
    back();
    told();
    digest();
    System.out.println(wrong == 0 ? "all promises hold" : wrong + " answers are not as due");
    if (wrong != 0) System.exit(1);
  }
}
