/** Arguments drawn for the calls of a mixed run: they fit what its model keeps, but for some. */
final class Drawn {
    private static final int[] OUTSIDE = {Check.LOWEST, Check.HIGHEST, -1000000001, 1000000001, -1, 0, 1};
    private static final int[] PRIMES = {2, 3, 5, 7, 11, 13, 17, 31, 61, 127, 251, 257, 509, 761, 991, 997};

    private final Numbers numbers;
    private final Model model;

    Drawn(Numbers numbers, Model model) {
        this.numbers = numbers;
        this.model = model;
    }

    private boolean oneOf(int times) {
        return numbers.between(1, times) == 1;
    }

    private int ofRow(int[] row) {
        return row[numbers.between(0, row.length - 1)];
    }

    int either() {
        return numbers.between(0, 1);
    }

    /** Now and then the least or the greatest, one just outside, or one far from it. */
    int within(int least, int most) {
        switch (numbers.between(0, 39)) {
            case 0:
                return least - 1;
            case 1:
                return most + 1;
            case 2:
                return ofRow(OUTSIDE);
            case 3:
            case 4:
                return least;
            case 5:
            case 6:
                return most;
            default:
                return most < least ? least : numbers.between(least, most);
        }
    }

    int pattern() {
        return within(0, model.patterns() - 1);
    }

    int word() {
        return within(0, model.words() - 1);
    }

    private int map() {
        return within(0, model.maps() - 1);
    }

    private static boolean isKept(int index, int size) {
        return index >= 0 && index < size;
    }

    // ---- maps

    /** Mostly behind the nodes that were drawn like this before. */
    int[] node() {
        int map = map();
        int nodes = isKept(map, model.maps()) ? model.nodes(map) : 0;
        int q = within(1, oneOf(3) ? 9 : 2);
        int p = oneOf(4) ? within(-99, 99) : (numbers.between(0, 3) + 2 * nodes - 8) * Math.max(1, Math.min(q, 9));
        int s = within(1, oneOf(3) ? 9 : 2);
        int r = oneOf(8) ? within(-99, 99) : within(-8 * Math.abs(s % 10), 8 * Math.abs(s % 10));
        return new int[] {map, p, q, r, s};
    }

    int[] squared() {
        int q = oneOf(2) ? within(1, 99) : oneOf(2) ? 4 : 16;
        int p = oneOf(2) ? within(-999, 999) : within(-40, 4);
        return new int[] {p, q};
    }

    /** Starts near 0, by a small number more often than not. */
    int[] start(int next, int last) {
        int q = oneOf(3) ? within(1, 9999) : within(1, 12);
        int wide = q >= 1 && q < 2500 ? 4 * q : 9999;
        int p = oneOf(4) ? within(-9999, 9999) : numbers.between(-wide, wide);
        return new int[] {map(), p, q, next, last};
    }

    int step() {
        return oneOf(3) ? within(0, 1000) : numbers.between(0, 6);
    }

    // ---- periods, patterns

    int period() {
        return oneOf(2) ? within(1, 1000000000) : numbers.between(1, 9) << numbers.between(0, 26);
    }

    /** The images of one cycle in a mixed order; now and then with a digit changed. */
    int images() {
        if (oneOf(20)) {
            return ofRow(OUTSIDE);
        }
        int points = numbers.between(2, 8);
        int[] order = new int[points];
        for (int i = 0; i < points; i++) {
            int at = numbers.between(0, i);
            order[i] = order[at];
            order[at] = i;
        }
        int[] image = new int[points];
        for (int i = 0; i < points; i++) {
            image[order[i]] = order[(i + 1) % points] + 1;
        }
        if (oneOf(6)) {
            image[numbers.between(0, points - 1)] = numbers.between(0, 9);
        }
        int digits = 0;
        for (int i : image) {
            digits = digits * 10 + i;
        }
        return digits;
    }

    int[] pieces() {
        int pattern = pattern();
        int pieces = isKept(pattern, model.patterns()) ? model.points(pattern) - 1 : 3;
        return new int[] {pattern, within(1, pieces), within(1, pieces)};
    }

    // ---- words

    int[] letters() {
        int letters = oneOf(3) ? within(0, 24) : within(0, 7);
        int set = within(Check.LOWEST + 1, Check.HIGHEST - 1);
        return new int[] {letters, oneOf(2) ? set : set & ~2 | 1};
    }

    int[] place() {
        int word = word();
        return new int[] {word, within(0, isKept(word, model.words()) ? model.letters(word) : 24)};
    }

    // ---- angles, remainders

    int[] angle(int last) {
        int q = oneOf(2) ? within(1, 1023) : within(1, 40);
        return new int[] {within(0, q >= 1 && q <= 1023 ? q - 1 : 7), q, last};
    }

    /** Mostly of a period from 2 to 8. */
    int[] shortAngle() {
        if (oneOf(5)) {
            return angle(0);
        }
        int q = (1 << numbers.between(2, 9)) - 1;
        int longer = numbers.between(1, Math.max(1, 1023 / q));
        int p = within(0, q - 1);
        return isKept(p, q) ? new int[] {p * longer, q * longer} : new int[] {p, q};
    }

    int[] remainder() {
        int prime = oneOf(6) ? within(2, 997) : ofRow(PRIMES);
        int most = prime >= 2 && prime <= 997 ? prime - 1 : 1;
        return new int[] {prime, within(0, most), within(0, most), either()};
    }
}
