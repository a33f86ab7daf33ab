import java.util.Arrays;

/** A patch blended into a picture; the promises are those of the document DOC.md. */
public final class BlendedPatch {
    public static final int NONE = -1, BAD = -2, NO = -3, FULL = -4;

    private static final int SIDE = 8;
    private static final int CELLS = SIDE * SIDE;
    private static final int PATCH_SIDE = 6;
    private static final int PATCH_CELLS = PATCH_SIDE * PATCH_SIDE;
    private static final int FIRST_OPEN = 1;
    private static final int LAST_OPEN = 6;
    private static final int MOST_OPEN = 36;
    private static final int GREATEST_VALUE = 255;

    private static final int FROM_PICTURE = 0;
    private static final int FROM_PATCH = 1;
    private static final int FROM_NEST = 2;
    private static final int BY_ROWS = 0;
    private static final int EVEN_FIRST = 1;
    private static final int BACKWARDS = 2;

    private static final int MOST_SWEEPS = 40;
    private static final int GREATEST_BOUND = 9999;
    private static final int GREATEST_DIVISOR = 99;
    private static final int GREATEST_SEED = 999999;

    private static final int TEXT_BYTES = 150;
    private static final int GREATEST_BYTE = 127;
    /** The shortest order of a text has two bytes: a letter and its end. */
    private static final int MOST_ORDERS = TEXT_BYTES / 2;
    private static final int MOST_NUMBERS = 3;
    private static final int MOST_FIGURES = 3;
    private static final int FAULT_BASE = -10;
    private static final int STOP_BASE = -1000;

    private static final int MOST_STATES = 5;
    private static final int TOLD_KINDS = 12;

    private final Scene scene = new Scene();
    private final Blend blend = new Blend();
    private final History history = new History();
    private final Text text = new Text();
    private int bads;
    private int noes;
    private int fulls;

    public BlendedPatch() {
    }

    // ---- picture and patch

    public int cell(int x, int y, int v) {
        history.note(scene);
        return changed(scene.putValue(x, y, v));
    }

    public int sizes(int w, int h) {
        history.note(scene);
        return changed(scene.resize(w, h));
    }

    public int patch(int x, int y, int v) {
        history.note(scene);
        return changed(scene.putPatchValue(x, y, v));
    }

    public int inside(int x, int y, int is) {
        history.note(scene);
        return changed(scene.putIn(x, y, is));
    }

    public int lies(int x, int y) {
        history.note(scene);
        return changed(scene.moveTo(x, y));
    }

    public int sets(int what, int v) {
        history.note(scene);
        return changed(scene.choose(what, v));
    }

    public int draws(int which, int seed) {
        history.note(scene);
        return changed(scene.draw(which, seed));
    }

    public int at(int x, int y, int what) {
        if (!onPicture(x, y) || !within(what, 0, 2)) {
            return refusedAsBad();
        }
        if (what == 0) {
            return scene.values[y * SIDE + x];
        }
        if (what == 1) {
            return scene.isOpen(x, y) ? 1 : 0;
        }
        int place = scene.patchPlace(x, y);
        return place == NONE ? NONE : scene.patchValues[place];
    }

    // ---- blended

    public int blends(int n, int x, int y) {
        if (!isSweeps(n) || !onPicture(x, y)) {
            return refusedAsBad();
        }
        blend.run(scene, n);
        return blend.bitsOfU(y * SIDE + x);
    }

    public int worst(int n) {
        if (!isSweeps(n)) {
            return refusedAsBad();
        }
        blend.run(scene, n);
        return bits(blend.greatestLeft(), false);
    }

    public int settles(int b) {
        if (!within(b, 1, GREATEST_BOUND)) {
            return refusedAsBad();
        }
        float bound = (float) b / 1000f;
        blend.run(scene, 0);
        for (int n = 0; n <= MOST_SWEEPS; n++) {
            if (blend.greatestLeft() < bound) {
                return n;
            }
            blend.sweep();
        }
        return NONE;
    }

    public int whole(int n, int x, int y) {
        if (!isSweeps(n) || !onPicture(x, y)) {
            return refusedAsBad();
        }
        blend.run(scene, n);
        return blend.wholeOf(y * SIDE + x);
    }

    public int rest(int n, int x, int y, int m) {
        if (!isSweeps(n) || !onPicture(x, y) || !within(m, 1, GREATEST_DIVISOR)) {
            return refusedAsBad();
        }
        blend.run(scene, n);
        return blend.bitsOfRest(y * SIDE + x, m);
    }

    public int sums(int n, int what) {
        if (!isSweeps(n) || !within(what, 0, 2)) {
            return refusedAsBad();
        }
        blend.run(scene, n);
        if (what == 0) {
            return blend.sumOfWholes();
        }
        return what == 1 ? blend.leastWhole() : blend.greatestWhole();
    }

    public int keeps(int n) {
        if (!isSweeps(n)) {
            return refusedAsBad();
        }
        history.note(scene);
        return changed(keepWholes(n));
    }

    // ---- texts

    public int type(int c) {
        if (!within(c, 0, GREATEST_BYTE)) {
            return refusedAsBad();
        }
        if (!text.append(c)) {
            fulls++;
            return FULL;
        }
        return text.length;
    }

    public int clear() {
        int had = text.length;
        text.length = 0;
        return had;
    }

    public int reads() {
        int fault = text.parse();
        if (fault != NONE) {
            return FAULT_BASE - fault;
        }
        history.note(scene);
        for (int k = 0; k < text.orders; k++) {
            if (obey(k) == BAD) {
                history.undo(scene);
                return STOP_BASE - k;
            }
        }
        history.keep();
        return text.orders;
    }

    public int back() {
        if (history.count == 0) {
            noes++;
            return NO;
        }
        history.stepBack(scene);
        return history.count;
    }

    public int told(int what) {
        if (!within(what, 0, TOLD_KINDS - 1)) {
            return refusedAsBad();
        }
        switch (what) {
            case 0: return bads;
            case 1: return noes;
            case 2: return fulls;
            case 3: return text.length;
            case 4: return scene.w;
            case 5: return scene.h;
            case 6: return scene.px;
            case 7: return scene.py;
            case 8: return scene.start;
            case 9: return scene.order;
            case 10: return scene.countOpen();
            default: return history.count;
        }
    }

    public long digest() {
        long h = 2539L;
        for (int what = 0; what < TOLD_KINDS; what++) {
            h = 31L * h + told(what);
        }
        for (int c = 0; c < CELLS; c++) {
            for (int what = 0; what <= 2; what++) {
                h = 31L * h + at(c % SIDE, c / SIDE, what);
            }
        }
        for (int y = 0; y < scene.h; y++) {
            for (int x = 0; x < scene.w; x++) {
                h = 31L * h + scene.patchValues[y * PATCH_SIDE + x];
                h = 31L * h + scene.in[y * PATCH_SIDE + x];
            }
        }
        h = 31L * h + worst(0);
        h = 31L * h + worst(3);
        h = 31L * h + settles(500);
        return 31L * h + sums(5, 0);
    }

    // ---- what the calls share

    private static boolean within(int v, int least, int most) {
        return v >= least && v <= most;
    }

    private static boolean onPicture(int x, int y) {
        return x >= 0 && x < SIDE && y >= 0 && y < SIDE;
    }

    private static boolean isSweeps(int n) {
        return within(n, 0, MOST_SWEEPS);
    }

    private int refusedAsBad() {
        bads++;
        return BAD;
    }

    /** Ends a call that leaves a state: the state noted before it counts only if it was not refused. */
    private int changed(int answer) {
        if (answer == BAD) {
            return refusedAsBad();
        }
        history.keep();
        return answer;
    }

    private int keepWholes(int n) {
        blend.run(scene, n);
        int others = 0;
        for (int c = 0; c < CELLS; c++) {
            int v = blend.wholeOf(c);
            if (v != scene.values[c]) {
                scene.values[c] = v;
                others++;
            }
        }
        return others;
    }

    /** Carries out an order of the text without counting a refusal: the document wants none counted. */
    private int obey(int k) {
        int first = text.number(k, 0);
        int second = text.number(k, 1);
        int third = text.number(k, 2);
        switch (text.letters[k]) {
            case 'c': return scene.putValue(first, second, third);
            case 'w': return scene.resize(first, second);
            case 'p': return scene.putPatchValue(first, second, third);
            case 'i': return scene.putIn(first, second, third);
            case 'a': return scene.moveTo(first, second);
            case 'o': return scene.choose(1, first);
            case 's': return scene.choose(0, first);
            default: return keepWholes(MOST_SWEEPS);
        }
    }

    /**
     * The bits of a float, told by its size and its sign, as the library's own function is not to be used.
     * No size here comes near 2^24 (a step of a sweep adds 255 at most, and there are 1440 at most),
     * so doubling alone brings it to where its last bit is worth one, and doubling is always exact.
     */
    private static int bits(float size, boolean below) {
        float scaled = size;
        int exponent = 149;
        for (int i = 0; i < 149 && scaled < 8388608f; i++) {
            scaled = scaled * 2f;
            exponent--;
        }
        // The leading bit of a normal number adds the one that is missing in the exponent; a number
        // too small for it has none, as it should.
        int sizeBits = (exponent << 23) + (int) scaled;
        return below ? sizeBits | 0x80000000 : sizeBits;
    }

    /** The picture, the patch and how they are blended: all that a state holds. */
    private static final class Scene {
        private final int[] values = new int[CELLS];
        private final int[] patchValues = new int[PATCH_CELLS];
        private final int[] in = new int[PATCH_CELLS];
        private int w = 4;
        private int h = 4;
        private int px = 2;
        private int py = 2;
        private int start = FROM_PICTURE;
        private int order = BY_ROWS;

        Scene() {
            Arrays.fill(in, 1);
        }

        void copyFrom(Scene other) {
            System.arraycopy(other.values, 0, values, 0, CELLS);
            System.arraycopy(other.patchValues, 0, patchValues, 0, PATCH_CELLS);
            System.arraycopy(other.in, 0, in, 0, PATCH_CELLS);
            w = other.w;
            h = other.h;
            px = other.px;
            py = other.py;
            start = other.start;
            order = other.order;
        }

        private boolean onPatch(int x, int y) {
            return x >= 0 && x < w && y >= 0 && y < h;
        }

        /** Where the cell of the patch is held that lies on a cell of the picture, or NONE. */
        int patchPlace(int x, int y) {
            int a = x - px;
            int b = y - py;
            return onPatch(a, b) ? b * PATCH_SIDE + a : NONE;
        }

        boolean isOpen(int x, int y) {
            if (!within(x, FIRST_OPEN, LAST_OPEN) || !within(y, FIRST_OPEN, LAST_OPEN)) {
                return false;
            }
            int place = patchPlace(x, y);
            return place != NONE && in[place] == 1;
        }

        int countOpen() {
            int many = 0;
            for (int y = FIRST_OPEN; y <= LAST_OPEN; y++) {
                for (int x = FIRST_OPEN; x <= LAST_OPEN; x++) {
                    if (isOpen(x, y)) {
                        many++;
                    }
                }
            }
            return many;
        }

        int putValue(int x, int y, int v) {
            if (!onPicture(x, y) || !within(v, 0, GREATEST_VALUE)) {
                return BAD;
            }
            int was = values[y * SIDE + x];
            values[y * SIDE + x] = v;
            return was;
        }

        int resize(int newW, int newH) {
            if (!within(newW, 1, PATCH_SIDE) || !within(newH, 1, PATCH_SIDE)) {
                return BAD;
            }
            int had = w * h;
            w = newW;
            h = newH;
            Arrays.fill(patchValues, 0);
            Arrays.fill(in, 1);
            return had;
        }

        int putPatchValue(int x, int y, int v) {
            if (!onPatch(x, y) || !within(v, 0, GREATEST_VALUE)) {
                return BAD;
            }
            int was = patchValues[y * PATCH_SIDE + x];
            patchValues[y * PATCH_SIDE + x] = v;
            return was;
        }

        int putIn(int x, int y, int is) {
            if (!onPatch(x, y) || !within(is, 0, 1)) {
                return BAD;
            }
            int was = in[y * PATCH_SIDE + x];
            in[y * PATCH_SIDE + x] = is;
            return was;
        }

        int moveTo(int x, int y) {
            if (!onPicture(x, y)) {
                return BAD;
            }
            px = x;
            py = y;
            return countOpen();
        }

        int choose(int what, int v) {
            if (!within(what, 0, 1) || !within(v, 0, 2)) {
                return BAD;
            }
            int was = what == 0 ? start : order;
            if (what == 0) {
                start = v;
            } else {
                order = v;
            }
            return was;
        }

        int draw(int which, int seed) {
            if (!within(which, 0, 1) || !within(seed, 0, GREATEST_SEED)) {
                return BAD;
            }
            return which == 0
                ? drawRows(values, SIDE, SIDE, SIDE, seed)
                : drawRows(patchValues, w, h, PATCH_SIDE, seed);
        }

        private static int drawRows(int[] row, int wide, int high, int stride, int seed) {
            long drawn = seed;
            int sum = 0;
            for (int y = 0; y < high; y++) {
                for (int x = 0; x < wide; x++) {
                    drawn = (drawn * 1103515245L + 12345L) % 2147483648L;
                    int v = (int) (drawn / 65536L % 256L);
                    row[y * stride + x] = v;
                    sum += v;
                }
            }
            return sum;
        }
    }

    /** U of all cells behind so many sweeps; its rows are used again by every call. */
    private static final class Blend {
        private final float[] u = new float[CELLS];
        private final boolean[] open = new boolean[CELLS];
        /** Whether U is below zero: a U too small for a float is a zero that yet keeps its sign. */
        private final boolean[] below = new boolean[CELLS];
        /** The open cells as a sweep comes to them. */
        private final int[] places = new int[MOST_OPEN];
        /** For each of these the differences of the patch against the cells above, left, right, below. */
        private final float[] steps = new float[4 * MOST_OPEN];
        private int count;

        void run(Scene scene, int n) {
            for (int c = 0; c < CELLS; c++) {
                open[c] = scene.isOpen(c % SIDE, c / SIDE);
                below[c] = false;
                u[c] = (float) scene.values[c];
            }
            listPlaces(scene.order);
            for (int i = 0; i < count; i++) {
                int c = places[i];
                int here = scene.patchPlace(c % SIDE, c / SIDE);
                if (here != NONE) {
                    if (scene.start == FROM_PATCH) {
                        u[c] = (float) scene.patchValues[here];
                    } else if (scene.start == FROM_NEST) {
                        u[c] = nest(scene, c % SIDE, c / SIDE);
                    }
                    measureSteps(scene, i, here);
                }
            }
            for (int i = 0; i < n; i++) {
                sweep();
            }
        }

        private void listPlaces(int order) {
            count = 0;
            for (int k = 0; k < CELLS; k++) {
                int c = cellInOrder(order, k);
                if (open[c] && count < MOST_OPEN) {
                    places[count] = c;
                    count++;
                }
            }
        }

        private static int cellInOrder(int order, int k) {
            if (order == BACKWARDS) {
                return CELLS - 1 - k;
            }
            if (order == EVEN_FIRST) {
                int half = CELLS / 2;
                int inHalf = k % half;
                int y = inHalf / (SIDE / 2);
                int x = 2 * (inHalf % (SIDE / 2)) + (y + k / half) % 2;
                return y * SIDE + x;
            }
            return k;
        }

        private float nest(Scene scene, int x, int y) {
            int left = x - x % 2;
            int top = y - y % 2;
            float sum = 0f;
            int many = 0;
            for (int b = top - 1; b <= top + 2; b++) {
                boolean rowOfBlock = within(b, top, top + 1);
                for (int a = left - 1; a <= left + 2; a++) {
                    boolean near = rowOfBlock || within(a, left, left + 1);
                    if (near && onPicture(a, b) && !open[b * SIDE + a]) {
                        sum = sum + (float) scene.values[b * SIDE + a];
                        many++;
                    }
                }
            }
            return many == 0 ? (float) scene.values[y * SIDE + x] : sum / (float) many;
        }

        private void measureSteps(Scene scene, int i, int here) {
            int x = places[i] % SIDE;
            int y = places[i] / SIDE;
            steps[4 * i] = step(scene, here, scene.patchPlace(x, y - 1));
            steps[4 * i + 1] = step(scene, here, scene.patchPlace(x - 1, y));
            steps[4 * i + 2] = step(scene, here, scene.patchPlace(x + 1, y));
            steps[4 * i + 3] = step(scene, here, scene.patchPlace(x, y + 1));
        }

        /** Where no cell of the patch lies there, 0f: to add it changes no sum, as no sum is a zero below zero. */
        private static float step(Scene scene, int here, int there) {
            return there == NONE ? 0f : (float) scene.patchValues[here] - (float) scene.patchValues[there];
        }

        void sweep() {
            for (int i = 0; i < count; i++) {
                float pull = pull(i);
                u[places[i]] = pull / 4f;
                below[places[i]] = pull < 0f;
            }
        }

        /** An open cell is never at the picture's rim, so all four cells beside it are there. */
        private float pull(int i) {
            int c = places[i];
            int k = 4 * i;
            float s = 0f;
            s = s + u[c - SIDE];
            s = s + steps[k];
            s = s + u[c - 1];
            s = s + steps[k + 1];
            s = s + u[c + 1];
            s = s + steps[k + 2];
            s = s + u[c + SIDE];
            s = s + steps[k + 3];
            return s;
        }

        float greatestLeft() {
            float greatest = 0f;
            for (int i = 0; i < count; i++) {
                float left = sizeOf(pull(i) - 4f * u[places[i]]);
                if (left > greatest) {
                    greatest = left;
                }
            }
            return greatest;
        }

        private static float sizeOf(float v) {
            return v < 0f ? -v : v;
        }

        int bitsOfU(int c) {
            return bits(sizeOf(u[c]), below[c]);
        }

        /**
         * What is left over keeps the sign of U, as Java's own remainder does. In doubles nothing is rounded
         * over a whole number here: U has 24 bits and the divisor 7, so the steps are all exact enough.
         */
        int bitsOfRest(int c, int m) {
            double size = (double) sizeOf(u[c]);
            double divisor = (double) m;
            int times = (int) (size / divisor);
            return bits((float) (size - (double) times * divisor), below[c]);
        }

        int wholeOf(int c) {
            int cut = (int) (u[c] + 0.5f);
            return Math.max(0, Math.min(GREATEST_VALUE, cut));
        }

        int sumOfWholes() {
            int sum = 0;
            for (int i = 0; i < count; i++) {
                sum += wholeOf(places[i]);
            }
            return sum;
        }

        int leastWhole() {
            int least = NONE;
            for (int i = 0; i < count; i++) {
                int v = wholeOf(places[i]);
                if (least == NONE || v < least) {
                    least = v;
                }
            }
            return least;
        }

        int greatestWhole() {
            int greatest = NONE;
            for (int i = 0; i < count; i++) {
                greatest = Math.max(greatest, wholeOf(places[i]));
            }
            return greatest;
        }
    }

    /** The states to go back to, in a ring with one place more, where the next is noted before it counts. */
    private static final class History {
        private final Scene[] states = new Scene[MOST_STATES + 1];
        private int next;
        private int count;

        History() {
            for (int i = 0; i < states.length; i++) {
                states[i] = new Scene();
            }
        }

        void note(Scene scene) {
            states[next].copyFrom(scene);
        }

        void undo(Scene scene) {
            scene.copyFrom(states[next]);
        }

        void keep() {
            next = (next + 1) % (MOST_STATES + 1);
            count = Math.min(count + 1, MOST_STATES);
        }

        void stepBack(Scene scene) {
            if (count == 0) {
                return;
            }
            next = (next + MOST_STATES) % (MOST_STATES + 1);
            count--;
            undo(scene);
        }
    }

    /** The bytes that were typed, and the orders that they tell. */
    private static final class Text {
        private final byte[] bytes = new byte[TEXT_BYTES];
        private int length;
        private final int[] letters = new int[MOST_ORDERS];
        private final int[] numbers = new int[MOST_NUMBERS * MOST_ORDERS];
        /** Orders that are ended; the one that is not yet ended has this number. */
        private int orders;
        /** How many numbers the order at hand wants; NONE between orders. */
        private int wanted;
        /** How many of them are ended. */
        private int had;
        /** How many figures the number at hand has yet; 0 between numbers. */
        private int figures;

        boolean append(int c) {
            if (length >= TEXT_BYTES) {
                return false;
            }
            bytes[length] = (byte) c;
            length++;
            return true;
        }

        int number(int order, int which) {
            return numbers[MOST_NUMBERS * order + which];
        }

        /** Takes the orders from the bytes and answers the fault's place, or NONE if there is no fault. */
        int parse() {
            orders = 0;
            wanted = NONE;
            figures = 0;
            for (int i = 0; i < length; i++) {
                if (!takes(bytes[i])) {
                    return i;
                }
            }
            boolean endsTooEarly = wanted != NONE || orders == 0;
            return endsTooEarly ? length : NONE;
        }

        private boolean takes(int c) {
            if (c == ' ') {
                endNumber();
                return true;
            }
            if (wanted == NONE) {
                return beginOrder(c);
            }
            return c == ';' ? endOrder() : takesFigure(c);
        }

        private boolean beginOrder(int c) {
            wanted = numbersOf(c);
            if (wanted == NONE || orders >= MOST_ORDERS) {
                return false;
            }
            letters[orders] = c;
            had = 0;
            return true;
        }

        private static int numbersOf(int letter) {
            switch (letter) {
                case 'c':
                case 'p':
                case 'i':
                    return 3;
                case 'w':
                case 'a':
                    return 2;
                case 'o':
                case 's':
                    return 1;
                case 'r':
                    return 0;
                default:
                    return NONE;
            }
        }

        private boolean takesFigure(int c) {
            if (!within(c, '0', '9') || had >= wanted || figures >= MOST_FIGURES) {
                return false;
            }
            int place = MOST_NUMBERS * orders + had;
            int before = figures == 0 ? 0 : numbers[place];
            numbers[place] = 10 * before + (c - '0');
            figures++;
            return true;
        }

        private void endNumber() {
            if (figures > 0) {
                had++;
                figures = 0;
            }
        }

        private boolean endOrder() {
            endNumber();
            if (had < wanted) {
                return false;
            }
            wanted = NONE;
            orders++;
            return true;
        }
    }
}
