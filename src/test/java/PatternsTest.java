import java.util.ArrayList;
import java.util.List;

/** Promises 8 to 14: periods and patterns. */
public final class PatternsTest {
    private static final Check CHECK = new Check();

    public static void main(String[] args) {
        forcesByHand();
        forcesByRow();
        forcesWrong();
        patternRight();
        patternWrong();
        patternLimit();
        askedWrong();
        byHand();
        allPatterns();
        askingChangesNothing();
        CHECK.end();
    }

    private static void forcesByHand() {
        Kneadery x = new Kneadery();
        long[][] rows = {{3, 5, 1}, {5, 3, 0}, {1, 1, 1}, {2, 1, 1}, {1, 2, 0}, {3, 3, 1}, {7, 6, 1}, {6, 7, 0},
            {999999999, 6, 1}, {6, 999999999, 0}, {1000000000, 536870912, 1}, {536870912, 1000000000, 0},
            {536870912, 1, 1}, {1, 536870912, 0}, {1000000000, 1000000000, 1}, {3, 1000000000, 1},
            {1000000000, 3, 0}, {12, 20, 1}, {20, 12, 0}, {12, 6, 0}, {6, 12, 1}, {14, 12, 1}, {12, 14, 0},
            {4, 6, 0}, {6, 4, 1}, {805306368, 1, 1}, {805306368, 536870912, 1}, {999999999, 999999997, 0}};
        for (long[] r : rows) {
            CHECK.due(8, "forces(" + r[0] + ", " + r[1] + ")", r[2],
                    () -> Check.one(x.forces((int) r[0], (int) r[1])));
        }
    }

    /** The order as it is told, of all periods up to 130. */
    private static void forcesByRow() {
        int most = 130;
        List<Integer> row = PatternOracle.periods(most);
        Kneadery x = new Kneadery();
        int calls = 0;
        for (int i = 0; i < most; i++) {
            for (int k = 0; k < most; k++) {
                if (++calls % 500 == 0) {
                    x = new Kneadery();
                }
                Kneadery y = x;
                int period = row.get(i);
                int other = row.get(k);
                CHECK.due(8, "forces(" + period + ", " + other + ")", i <= k ? 1 : 0,
                        () -> Check.one(y.forces(period, other)));
            }
        }
    }

    private static void forcesWrong() {
        Kneadery x = new Kneadery();
        int[] wrong = {0, -1, -3, 1000000001, Check.LOWEST, Check.HIGHEST};
        for (int w : wrong) {
            CHECK.throwing(8, "forces(" + w + ", 1)", Check.ARGUMENT, () -> Check.one(x.forces(w, 1)));
            CHECK.throwing(8, "forces(3, " + w + ")", Check.ARGUMENT, () -> Check.one(x.forces(3, w)));
            CHECK.throwing(8, "forces twice " + w, Check.ARGUMENT, () -> Check.one(x.forces(w, w)));
        }
    }

    private static void patternRight() {
        Kneadery x = new Kneadery();
        int[] right = {21, 231, 312, 2341, 3421, 4312, 23451, 35421, 234561, 2345671, 23456781, 81234567};
        for (int i = 0; i < right.length; i++) {
            int k = i;
            CHECK.due(9, "pattern(" + right[k] + ")", k, () -> x.pattern(right[k]));
        }
        for (int i = 0; i < right.length; i++) {
            int k = i;
            CHECK.due(10, "images(" + k + ")", right[k], () -> x.images(k));
        }
    }

    private static void patternWrong() {
        Kneadery x = new Kneadery();
        int[] wrong = {0, 1, 2, 9, 10, 11, 12, 20, 22, 31, -21, -231, 123, 132, 213, 321, 221, 233, 230, 201, 301, 241,
            2143, 3412, 4321, 1342, 2314, 2340, 2351, 23415, 21453, 234516, 2345678, 23456789, 12345678, 82345671,
            23456782, 23456701, 23456791, 87654321, 234567891, 123456789, 1234567890, 2100000000, 231231231,
            Check.LOWEST, Check.HIGHEST, 987654321, 21436587, 121, 1231, 12341, 123451, 1234561, 12345671, 123456781,
            22, 2311, 23, 32, 3, 3241, 4213};
        for (int w : wrong) {
            CHECK.throwing(9, "pattern(" + w + ")", Check.ARGUMENT, () -> x.pattern(w));
        }
        CHECK.due(9, "none of them was kept", 0, () -> x.pattern(21));
    }

    private static void patternLimit() {
        Kneadery x = new Kneadery();
        for (int i = 0; i < 12; i++) {
            int k = i;
            CHECK.due(9, "the same pattern again", k, () -> x.pattern(231));
        }
        CHECK.throwing(9, "a thirteenth pattern", Check.STATE, () -> x.pattern(21));
        CHECK.throwing(9, "a thirteenth that is none", Check.ARGUMENT, () -> x.pattern(12));
        CHECK.throwing(10, "images(12)", Check.INDEX, () -> x.images(12));
        CHECK.due(10, "images(11)", 231, () -> x.images(11));
        CHECK.due(15, "words are apart from patterns", 0, () -> x.word(0, 0));
        CHECK.due(2, "maps are apart from patterns", 0, () -> x.straight());
    }

    private static void askedWrong() {
        Kneadery x = new Kneadery();
        x.pattern(2341);
        int[] none = {-1, 1, 12, Check.LOWEST, Check.HIGHEST};
        for (int w : none) {
            CHECK.throwing(10, "images(" + w + ")", Check.INDEX, () -> x.images(w));
            CHECK.throwing(11, "covers(" + w + ", 1, 1)", Check.INDEX, () -> Check.one(x.covers(w, 1, 1)));
            CHECK.throwing(12, "ways(" + w + ", 1)", Check.INDEX, () -> x.ways(w, 1));
            CHECK.throwing(12, "ways(" + w + ", 0)", Check.INDEX, () -> x.ways(w, 0));
            CHECK.throwing(13, "loops(" + w + ", 1)", Check.INDEX, () -> x.loops(w, 1));
            CHECK.throwing(13, "loops(" + w + ", 7)", Check.INDEX, () -> x.loops(w, 7));
            CHECK.throwing(14, "loopsAnew(" + w + ", 1)", Check.INDEX, () -> x.loopsAnew(w, 1));
            CHECK.throwing(14, "loopsAnew(" + w + ", 7)", Check.INDEX, () -> x.loopsAnew(w, 7));
        }
        int[] pieces = {0, 4, -1, 5, 9, Check.LOWEST, Check.HIGHEST};
        for (int w : pieces) {
            CHECK.throwing(11, "covers(0, " + w + ", 1)", Check.INDEX, () -> Check.one(x.covers(0, w, 1)));
            CHECK.throwing(11, "covers(0, 1, " + w + ")", Check.INDEX, () -> Check.one(x.covers(0, 1, w)));
            CHECK.throwing(11, "covers(0, 3, " + w + ")", Check.INDEX, () -> Check.one(x.covers(0, 3, w)));
        }
        int[] lengths = {0, -1, 21, Check.LOWEST, Check.HIGHEST};
        for (int w : lengths) {
            CHECK.throwing(12, "ways(0, " + w + ")", Check.ARGUMENT, () -> x.ways(0, w));
            CHECK.throwing(13, "loops(0, " + w + ")", Check.ARGUMENT, () -> x.loops(0, w));
            CHECK.throwing(14, "loopsAnew(0, " + w + ")", Check.ARGUMENT, () -> x.loopsAnew(0, w));
        }
        CHECK.throwing(13, "loops(0, 7)", Check.ARGUMENT, () -> x.loops(0, 7));
        CHECK.throwing(14, "loopsAnew(0, 7)", Check.ARGUMENT, () -> x.loopsAnew(0, 7));
        CHECK.due(12, "ways(0, 20) is told", 1, () -> x.ways(0, 20) > 0 ? 1 : 0);
    }

    private static void byHand() {
        Kneadery x = new Kneadery();
        x.pattern(21);
        x.pattern(231);
        x.pattern(3421);
        CHECK.due(11, "the one piece of 21 covers itself", 1, () -> Check.one(x.covers(0, 1, 1)));
        for (int n = 1; n <= 6; n++) {
            int k = n;
            CHECK.due(12, "ways of 21", 1, () -> x.ways(0, k));
            CHECK.due(13, "loops of 21", k == 1 ? 1 : 0, () -> x.loops(0, k));
            CHECK.due(14, "loops of 21 anew", k == 1 ? 1 : 0, () -> x.loopsAnew(0, k));
        }
        // Of 231 the piece 1 covers 2, and 2 both: ways by the row of Fibonacci, loops as for golden means.
        long[] ways = {2, 3, 5, 8, 13, 21, 34, 55, 89, 144, 233, 377, 610, 987, 1597, 2584, 4181, 6765, 10946, 17711};
        for (int n = 1; n <= 20; n++) {
            int k = n;
            CHECK.due(12, "ways of 231, " + k, ways[k - 1], () -> x.ways(1, k));
        }
        int[] loops = {1, 1, 1, 1, 2, 2};
        for (int n = 1; n <= 6; n++) {
            int k = n;
            CHECK.due(13, "loops of 231, " + k, loops[k - 1], () -> x.loops(1, k));
            CHECK.due(14, "loops of 231 anew, " + k, loops[k - 1], () -> x.loopsAnew(1, k));
        }
        int[][] covered = {{3}, {2, 3}, {1}};
        for (int piece = 1; piece <= 3; piece++) {
            for (int other = 1; other <= 3; other++) {
                int from = piece;
                int to = other;
                long want = 0;
                for (int c : covered[piece - 1]) {
                    want |= Check.one(c == other);
                }
                CHECK.due(11, "covers(2, " + piece + ", " + other + ")", want, () -> Check.one(x.covers(2, from, to)));
            }
        }
    }

    /** Every pattern up to six points, and some of seven and eight. */
    private static void allPatterns() {
        for (int points = 2; points <= 8; points++) {
            List<Integer> all = new ArrayList<>();
            addCycles(all, points, new int[points], 1, 1, 0);
            int by = points <= 6 ? 1 : points == 7 ? 13 : 97;
            for (int i = 0; i < all.size(); i += by) {
                comparePattern(all.get(i), points, i);
            }
        }
    }

    /** Goes on from a point to each that was not gone through. */
    private static void addCycles(List<Integer> all, int points, int[] image, int at, int used, int steps) {
        if (steps == points - 1) {
            image[at - 1] = 1;
            int digits = 0;
            for (int i : image) {
                digits = digits * 10 + i;
            }
            all.add(digits);
            return;
        }
        for (int to = 2; to <= points; to++) {
            if ((used >> to - 1 & 1) == 0) {
                image[at - 1] = to;
                addCycles(all, points, image, to, used | 1 << to - 1, steps + 1);
            }
        }
    }

    private static void comparePattern(int digits, int points, int turn) {
        Kneadery x = new Kneadery();
        CHECK.due(9, "pattern(" + digits + ")", 0, () -> x.pattern(digits));
        CHECK.due(10, "images of it", digits, () -> x.images(0));
        String images = Integer.toString(digits);
        for (int from = 1; from < points; from++) {
            for (int to = 1; to < points; to++) {
                int piece = from;
                int other = to;
                long want = Check.one(PatternOracle.covers(images, piece, other));
                CHECK.due(11, digits + " covers " + from + " " + to, want, () -> Check.one(x.covers(0, piece, other)));
            }
        }
        for (int n = 1; n <= 20; n++) {
            if (n < 4 || n == 20 || (n + turn) % 5 == 0) {
                int length = n;
                long want = PatternOracle.ways(images, n);
                CHECK.due(12, "ways of " + digits + ", " + n, want, () -> x.ways(0, length));
            }
        }
        int most = points <= 6 || turn % 5 == 0 ? 6 : 4;
        for (int n = 1; n <= most; n++) {
            int length = n;
            long want = PatternOracle.loops(images, n);
            CHECK.due(13, "loops of " + digits + ", " + n, want, () -> x.loops(0, length));
            CHECK.due(14, "loops of " + digits + " anew, " + n, want, () -> x.loopsAnew(0, length));
        }
    }

    private static void askingChangesNothing() {
        Kneadery x = new Kneadery();
        x.pattern(231);
        x.pattern(35421);
        for (int i = 0; i < 10; i++) {
            CHECK.due(12, "ways of the one", 5, () -> x.ways(0, 3));
            CHECK.due(13, "loops of the one", 2, () -> x.loops(0, 6));
            CHECK.due(14, "loops of the one anew", 2, () -> x.loopsAnew(0, 5));
            CHECK.due(12, "ways of the other", 4, () -> x.ways(1, 1));
            CHECK.due(11, "what the one covers", 0, () -> Check.one(x.covers(0, 1, 1)));
            CHECK.due(10, "images of the other", 35421, () -> x.images(1));
        }
        CHECK.due(9, "a third pattern", 2, () -> x.pattern(21));
    }
}
