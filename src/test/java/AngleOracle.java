import java.util.ArrayList;
import java.util.Arrays;
import java.util.List;

/** Angles by the document's words: p by q is told by p, all points of a row being by the same q. */
final class AngleOracle {
    /** By period: the companion of each angle, by the number above the line; 0 for none. */
    static final int[][] PARTNERS = new int[9][];

    private static int pairs;

    static {
        joinAll();
    }

    private AngleOracle() {
    }

    /** The points up to the first that comes back, and behind them the place at which that stands. */
    static int[] points(int p, int q) {
        int[] cameAs = new int[q];
        Arrays.fill(cameAs, -1);
        int[] row = new int[q + 1];
        int size = 0;
        int at = p;
        while (cameAs[at] < 0) {
            cameAs[at] = size;
            row[size++] = at;
            at = at + at >= q ? at + at - q : at + at;
        }
        row[size] = cameAs[at];
        return Arrays.copyOf(row, size + 1);
    }

    static int ahead(int p, int q) {
        int[] row = points(p, q);
        return row[row.length - 1];
    }

    static int period(int p, int q) {
        int[] row = points(p, q);
        return row.length - 1 - row[row.length - 1];
    }

    /** With fractions by 2 q: t's halves are p and p + q. */
    static int turn(int p, int q, int k) {
        int[] row = points(p, q);
        int period = row.length - 1 - row[row.length - 1];
        int n = k - 1;
        while (n >= row.length - 1) {
            n -= period;
        }
        int twice = 2 * row[n];
        return twice == p || twice == p + q ? 2 : p < twice && twice < p + q ? 1 : 0;
    }

    static List<Integer> address(int p, int q) {
        int[] letter = new int[65];
        for (int k = 1; k <= 64; k++) {
            letter[k] = turn(p, q, k);
        }
        List<Integer> row = new ArrayList<>();
        int s = 1;
        while (s > 0) {
            row.add(s);
            int next = 0;
            for (int i = 64; i > s && letter[s] != 2; i--) {
                if (letter[i] == 2 || letter[i] != letter[i - s]) {
                    next = i;
                }
            }
            s = next;
        }
        return row;
    }

    static int pairs() {
        return pairs;
    }

    /** By the document's words, with fractions as (number above, number below), compared crosswise. */
    private static void joinAll() {
        List<int[]> joined = new ArrayList<>();
        for (int period = 2; period <= 8; period++) {
            int q = (1 << period) - 1;
            List<Integer> left = new ArrayList<>();
            for (int p = 0; p < q; p++) {
                if (period(p, q) == period && ahead(p, q) == 0) {
                    left.add(p);
                }
            }
            PARTNERS[period] = new int[q];
            while (!left.isEmpty()) {
                int lowest = left.remove(0);
                for (int i = 0; i < left.size(); i++) {
                    int other = left.get(i);
                    if (isApart(joined, lowest, other, q)) {
                        left.remove(i);
                        joined.add(new int[] {lowest, other, q});
                        PARTNERS[period][lowest] = other;
                        PARTNERS[period][other] = lowest;
                        break;
                    }
                }
            }
        }
        pairs = joined.size();
    }

    private static boolean isApart(List<int[]> joined, int low, int high, int q) {
        for (int[] pair : joined) {
            int inside = 0;
            for (int end = 0; end < 2; end++) {
                inside += pair[end] * q > low * pair[2] && pair[end] * q < high * pair[2] ? 1 : 0;
            }
            if (inside == 1) {
                return false;
            }
        }
        return true;
    }
}
