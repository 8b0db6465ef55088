import java.util.ArrayList;
import java.util.List;

/**
 * The document once more, in its plainest form, by the oracles: what is kept, what is refused, and by which exception.
 * Each call refuses in the order of its throws clause.
 */
final class Model {
    private static final int MOST = 1000000000;

    private final List<MapOracle> maps = new ArrayList<>();
    private final List<Integer> patterns = new ArrayList<>();
    private final List<String> words = new ArrayList<>();

    int maps() {
        return maps.size();
    }

    int patterns() {
        return patterns.size();
    }

    int words() {
        return words.size();
    }

    /** How many nodes a map has; 0 of a squared one. */
    int nodes(int map) {
        return maps.get(map).nodes();
    }

    int letters(int word) {
        return words.get(word).length() - 1;
    }

    int points(int pattern) {
        return text(pattern).length();
    }

    // ---- maps

    int straight() {
        state(maps.size() < 12);
        return keep(maps, new MapOracle());
    }

    int node(int map, int p, int q, int r, int s) {
        index(isIn(map, 0, maps.size() - 1) && maps.get(map).isStraight());
        argument(isIn(p, -99, 99) && isIn(q, 1, 9) && isIn(r, -99, 99) && isIn(s, 1, 9));
        state(maps.get(map).nodes() < 8 && maps.get(map).isBehindAll(p, q));
        return maps.get(map).node(p, q, r, s).nodes();
    }

    int squared(int p, int q) {
        argument(isIn(p, -999, 999) && isIn(q, 1, 99));
        state(maps.size() < 12);
        return keep(maps, new MapOracle(p, q));
    }

    int mapOf(int pattern) {
        index(isIn(pattern, 0, patterns.size() - 1));
        state(maps.size() < 12);
        MapOracle map = new MapOracle();
        for (int k = 1; k <= points(pattern); k++) {
            map.node(k, 1, text(pattern).charAt(k - 1) - '0', 1);
        }
        return keep(maps, map);
    }

    int orbit(int map, int p, int q, int what) {
        index(isIn(map, 0, maps.size() - 1));
        argument(isIn(p, -9999, 9999) && isIn(q, 1, 9999) && isIn(what, 0, 3));
        return maps.get(map).run(p, q).told(what);
    }

    int point(int map, int p, int q, int n, boolean isBelow) {
        index(isIn(map, 0, maps.size() - 1));
        argument(isIn(p, -9999, 9999) && isIn(q, 1, 9999) && isIn(n, 0, 1000));
        MapOracle.Part part = maps.get(map).run(p, q).point(n);
        state(part != null);
        return (isBelow ? part.q : part.p).intValueExact();
    }

    // ---- periods, patterns

    boolean forces(int period, int other) {
        argument(isIn(period, 1, MOST) && isIn(other, 1, MOST));
        int power = Integer.lowestOneBit(period);
        int otherPower = Integer.lowestOneBit(other);
        boolean isPower = power == period;
        if (isPower || otherPower == other) {
            return otherPower == other && (!isPower || period >= other);
        }
        return power == otherPower ? period <= other : power < otherPower;
    }

    int pattern(int images) {
        argument(images > 0 && PatternOracle.isPattern(images));
        state(patterns.size() < 12);
        return keep(patterns, images);
    }

    int images(int pattern) {
        index(isIn(pattern, 0, patterns.size() - 1));
        return patterns.get(pattern);
    }

    boolean covers(int pattern, int piece, int other) {
        index(isIn(pattern, 0, patterns.size() - 1));
        index(isIn(piece, 1, points(pattern) - 1) && isIn(other, 1, points(pattern) - 1));
        return PatternOracle.covers(text(pattern), piece, other);
    }

    long ways(int pattern, int n) {
        index(isIn(pattern, 0, patterns.size() - 1));
        argument(isIn(n, 1, 20));
        return PatternOracle.ways(text(pattern), n);
    }

    int loops(int pattern, int n) {
        index(isIn(pattern, 0, patterns.size() - 1));
        argument(isIn(n, 1, 6));
        return PatternOracle.loops(text(pattern), n);
    }

    // ---- words

    int word(int letters, int set) {
        argument(isIn(letters, 0, 24));
        state(words.size() < 30);
        return keep(words, WordOracle.text(letters, set));
    }

    char letter(int word, int place) {
        index(isIn(word, 0, words.size() - 1));
        index(isIn(place, 0, words.get(word).length() - 1));
        return words.get(word).charAt(place);
    }

    int compare(int word, int other) {
        index(isIn(word, 0, words.size() - 1) && isIn(other, 0, words.size() - 1));
        return WordOracle.order(words.get(word), words.get(other));
    }

    boolean isGreatest(int word) {
        index(isIn(word, 0, words.size() - 1));
        return WordOracle.isGreatest(words.get(word));
    }

    int count(int letters) {
        argument(isIn(letters, 0, 9));
        return WordOracle.count(letters);
    }

    int product(int word, int other) {
        index(isIn(word, 0, words.size() - 1) && isIn(other, 0, words.size() - 1));
        String text = WordOracle.product(words.get(word), words.get(other));
        state(text.length() <= 25 && words.size() < 30);
        return keep(words, text);
    }

    int factor(int word) {
        index(isIn(word, 0, words.size() - 1));
        return WordOracle.factor(words.get(word));
    }

    int patternOf(int word) {
        index(isIn(word, 0, words.size() - 1));
        String text = words.get(word);
        state(WordOracle.isGreatest(text) && isIn(text.length() - 1, 1, 7) && patterns.size() < 12);
        return keep(patterns, WordOracle.imagesOf(text));
    }

    // ---- angles

    int angle(int p, int q, boolean isPeriod) {
        argument(isIn(q, 1, 1023) && isIn(p, 0, q - 1));
        return isPeriod ? AngleOracle.period(p, q) : AngleOracle.ahead(p, q);
    }

    int turn(int p, int q, int k) {
        argument(isIn(q, 1, 1023) && isIn(p, 0, q - 1) && isIn(k, 1, 1000));
        return AngleOracle.turn(p, q, k);
    }

    int address(int p, int q, int place) {
        index(place >= 0);
        argument(isIn(q, 1, 1023) && isIn(p, 0, q - 1));
        List<Integer> row = AngleOracle.address(p, q);
        return place < row.size() ? row.get(place) : Kneadery.NONE;
    }

    int companion(int p, int q) {
        argument(isIn(q, 1, 1023) && isIn(p, 0, q - 1));
        int period = AngleOracle.period(p, q);
        state(AngleOracle.ahead(p, q) == 0 && isIn(period, 2, 8));
        return AngleOracle.PARTNERS[period][p * ((1 << period) - 1) / q];
    }

    // ---- remainders

    int remainder(int prime, int c, int x, boolean isPeriod) {
        argument(isIn(prime, 2, 997) && RemainderOracle.isPrime(prime) && isIn(c, 0, prime - 1));
        argument(isIn(x, 0, prime - 1));
        return RemainderOracle.walk(prime, c, x)[isPeriod ? 1 : 0];
    }

    int onCycles(int prime, int c) {
        argument(isIn(prime, 2, 997) && RemainderOracle.isPrime(prime) && isIn(c, 0, prime - 1));
        return RemainderOracle.onCycles(prime, c);
    }

    // ---- what is kept, and what is refused

    private String text(int pattern) {
        return Integer.toString(patterns.get(pattern));
    }

    private static <T> int keep(List<T> list, T one) {
        list.add(one);
        return list.size() - 1;
    }

    private static boolean isIn(int value, int least, int most) {
        return value >= least && value <= most;
    }

    private static void index(boolean isThere) {
        if (!isThere) {
            throw new IndexOutOfBoundsException();
        }
    }

    private static void argument(boolean isInRange) {
        if (!isInRange) {
            throw new IllegalArgumentException();
        }
    }

    private static void state(boolean isRight) {
        if (!isRight) {
            throw new IllegalStateException();
        }
    }
}
