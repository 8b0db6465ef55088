import java.util.ArrayList;
import java.util.HashSet;
import java.util.List;
import java.util.Set;

/** Patterns by the document's words: as texts of their digits, ways and loops as texts of their pieces. */
final class PatternOracle {
    private PatternOracle() {
    }

    /** Whether the digits are the images of one cycle of the points 1 to n, 2 to 8 of them. */
    static boolean isPattern(int digits) {
        String text = Integer.toString(digits);
        int points = text.length();
        if (points < 2 || points > 8 || !text.matches("[1-" + points + "]*")) {
            return false;
        }
        Set<Integer> gone = new HashSet<>();
        int at = 1;
        while (gone.add(at)) {
            at = text.charAt(at - 1) - '0';
        }
        return at == 1 && gone.size() == points;
    }

    static boolean covers(String images, int piece, int other) {
        int one = images.charAt(piece - 1) - '0';
        int two = images.charAt(piece) - '0';
        return one <= other && two >= other + 1 || two <= other && one >= other + 1;
    }

    static long ways(String images, int n) {
        int points = images.length();
        long[] endingAt = new long[points];
        for (int i = 1; i <= n; i++) {
            long[] longer = new long[points];
            for (int to = 1; to < points; to++) {
                for (int from = 1; from < points; from++) {
                    longer[to] += i == 1 ? (from == 1 ? 1 : 0) : covers(images, from, to) ? endingAt[from] : 0;
                }
            }
            endingAt = longer;
        }
        long sum = 0;
        for (int to = 1; to < points; to++) {
            sum += endingAt[to];
        }
        return sum;
    }

    /** Prime loops, each kept by the least of its turned texts; those of a shorter one again and again are left. */
    static int loops(String images, int n) {
        Set<String> found = new HashSet<>();
        for (String way : allWays(images, n)) {
            boolean isPrime = (way + way).indexOf(way, 1) == n;
            if (isPrime && covers(images, way.charAt(n - 1) - '0', way.charAt(0) - '0')) {
                String least = way;
                for (int by = 1; by < n; by++) {
                    String turned = way.substring(by) + way.substring(0, by);
                    least = turned.compareTo(least) < 0 ? turned : least;
                }
                found.add(least);
            }
        }
        return found.size();
    }

    private static List<String> allWays(String images, int n) {
        List<String> ways = new ArrayList<>();
        for (int first = 1; first < images.length(); first++) {
            ways.add("" + first);
        }
        for (int i = 1; i < n; i++) {
            List<String> longer = new ArrayList<>();
            for (String way : ways) {
                for (int to = 1; to < images.length(); to++) {
                    if (covers(images, way.charAt(way.length() - 1) - '0', to)) {
                        longer.add(way + to);
                    }
                }
            }
            ways = longer;
        }
        return ways;
    }

    /** The order of the periods as it is told, row by row, up to most. */
    static List<Integer> periods(int most) {
        List<Integer> row = new ArrayList<>();
        List<Integer> powers = new ArrayList<>();
        for (int power = 1; power <= most; power *= 2) {
            for (int odd = 3; odd * power <= most; odd += 2) {
                row.add(odd * power);
            }
            powers.add(0, power);
        }
        row.addAll(powers);
        return row;
    }
}
