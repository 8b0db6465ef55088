import java.util.ArrayList;

/** A bakehouse of iteration; README.md says how it is used. */
public final class Kneadery {
    public static final int NONE = -1;
    public static final int CYCLES = 0, LEAVES = 1, LOST = 2, OPEN = 3;

    private static final int MOST_MAPS = 12;
    private static final int MOST_NODES = 8;
    private static final int MOST_PATTERNS = 12;
    private static final int MOST_WORDS = 30;
    private static final int MOST_LETTERS = 24;
    private static final int MOST_COUNTED = 9;
    private static final int MOST_POINTS = 8;
    private static final int MOST_LOOP = 6;
    private static final int MOST_WAY = 20;
    private static final int MOST_STEP = 1000;
    private static final int MOST_TURN = 1000;
    private static final int MOST_BELOW = 1023;
    private static final int MOST_PRIME = 997;
    private static final int MOST_PERIOD = 1000000000;
    private static final int MOST_IN_FRACTION = 1000000000;
    private static final int LEAST_COMPANION_PERIOD = 2;
    private static final int MOST_COMPANION_PERIOD = 8;

    private final ArrayList<Rule> rules = new ArrayList<Rule>();
    private final ArrayList<Cycle> cycles = new ArrayList<Cycle>();
    private final ArrayList<Word> words = new ArrayList<Word>();
    private final Orbit lastOrbit = new Orbit();
    private final Round round = new Round();
    private final Turns turns = new Turns();
    private final Companions companions = new Companions();

    public Kneadery() {
    }

    // ---- maps

    public int straight() throws IllegalStateException {
        needRoom(rules.size(), MOST_MAPS);
        return keepRule(new Straight());
    }

    public int node(int map, int p, int q, int r, int s)
            throws IndexOutOfBoundsException, IllegalArgumentException, IllegalStateException {
        needIndex(map, rules.size());
        if (!(rules.get(map) instanceof Straight road)) {
            throw new IndexOutOfBoundsException("no such straight map");
        }
        needFraction(p, q, 99, 9);
        needFraction(r, s, 99, 9);
        Fraction place = new Fraction(p, q);
        if (!road.hasRoomBehind(place)) {
            throw new IllegalStateException("no room for such a node");
        }
        return road.addNode(place, new Fraction(r, s));
    }

    public int squared(int p, int q) throws IllegalArgumentException, IllegalStateException {
        needFraction(p, q, 999, 99);
        needRoom(rules.size(), MOST_MAPS);
        return keepRule(new Squared(p, q));
    }

    public int mapOf(int pattern) throws IndexOutOfBoundsException, IllegalStateException {
        needIndex(pattern, cycles.size());
        needRoom(rules.size(), MOST_MAPS);
        Cycle cycle = cycles.get(pattern);
        Straight road = new Straight();
        for (int k = 1; k <= cycle.points; k++) {
            road.addNode(new Fraction(k, 1), new Fraction(cycle.image[k], 1));
        }
        return keepRule(road);
    }

    public int orbit(int map, int p, int q, int what)
            throws IndexOutOfBoundsException, IllegalArgumentException {
        needIndex(map, rules.size());
        needFraction(p, q, 9999, 9999);
        needRange(what, 0, 3);
        lastOrbit.run(rules.get(map), p, q);
        switch (what) {
            case 0:
                return lastOrbit.end;
            case 1:
                return lastOrbit.size;
            case 2:
                return lastOrbit.period;
            default:
                return lastOrbit.stopsShort() ? lastOrbit.size - 1 : NONE;
        }
    }

    public int point(int map, int p, int q, int n, boolean isBelow)
            throws IndexOutOfBoundsException, IllegalArgumentException, IllegalStateException {
        needIndex(map, rules.size());
        needFraction(p, q, 9999, 9999);
        needRange(n, 0, MOST_STEP);
        lastOrbit.run(rules.get(map), p, q);
        int at = lastOrbit.indexOf(n);
        if (at < 0 || at >= lastOrbit.size) {
            throw new IllegalStateException("no such point");
        }
        return (int) (isBelow ? lastOrbit.below[at] : lastOrbit.above[at]);
    }

    // ---- periods, patterns

    public boolean forces(int period, int other) throws IllegalArgumentException {
        needRange(period, 1, MOST_PERIOD);
        needRange(other, 1, MOST_PERIOD);
        int odd = oddPart(period);
        int otherOdd = oddPart(other);
        if (odd == 1) {
            return otherOdd == 1 && other <= period;
        }
        if (otherOdd == 1) {
            return true;
        }
        int power = period / odd;
        int otherPower = other / otherOdd;
        return power < otherPower || power == otherPower && odd <= otherOdd;
    }

    public int pattern(int images) throws IllegalArgumentException, IllegalStateException {
        if (!Cycle.isTold(images)) {
            throw new IllegalArgumentException("no pattern");
        }
        needRoom(cycles.size(), MOST_PATTERNS);
        return keepCycle(images);
    }

    public int images(int pattern) throws IndexOutOfBoundsException {
        needIndex(pattern, cycles.size());
        return cycles.get(pattern).digits;
    }

    public boolean covers(int pattern, int piece, int other) throws IndexOutOfBoundsException {
        needIndex(pattern, cycles.size());
        Cycle cycle = cycles.get(pattern);
        if (!cycle.hasPiece(piece) || !cycle.hasPiece(other)) {
            throw new IndexOutOfBoundsException("no such piece");
        }
        return cycle.reaches(piece, other);
    }

    public long ways(int pattern, int n) throws IndexOutOfBoundsException, IllegalArgumentException {
        needIndex(pattern, cycles.size());
        needRange(n, 1, MOST_WAY);
        return cycles.get(pattern).allWays(n);
    }

    public int loops(int pattern, int n) throws IndexOutOfBoundsException, IllegalArgumentException {
        needIndex(pattern, cycles.size());
        needRange(n, 1, MOST_LOOP);
        return cycles.get(pattern).primeLoops(n);
    }

    public int loopsAnew(int pattern, int n) throws IndexOutOfBoundsException, IllegalArgumentException {
        needIndex(pattern, cycles.size());
        needRange(n, 1, MOST_LOOP);
        return cycles.get(pattern).primeLoopsByRows(n);
    }

    // ---- words

    public int word(int letters, int set) throws IllegalArgumentException, IllegalStateException {
        needRange(letters, 0, MOST_LETTERS);
        needRoom(words.size(), MOST_WORDS);
        return keepWord(letters, set & Word.allR(letters));
    }

    public char letter(int word, int place) throws IndexOutOfBoundsException {
        needIndex(word, words.size());
        Word told = words.get(word);
        needIndex(place, told.letters + 1);
        return Word.signAt(told.letters, told.set, place);
    }

    public int compare(int word, int other) throws IndexOutOfBoundsException {
        needIndex(word, words.size());
        needIndex(other, words.size());
        Word first = words.get(word);
        Word second = words.get(other);
        return Word.order(first.letters, first.set, second.letters, second.set);
    }

    public boolean isGreatest(int word) throws IndexOutOfBoundsException {
        needIndex(word, words.size());
        Word told = words.get(word);
        return Word.isAboveTails(told.letters, told.set);
    }

    public int count(int letters) throws IllegalArgumentException {
        needRange(letters, 0, MOST_COUNTED);
        int found = 0;
        for (int set = 0; set <= Word.allR(letters); set++) {
            if (Word.isAboveTails(letters, set)) {
                found++;
            }
        }
        return found;
    }

    public int countAnew(int letters) throws IllegalArgumentException {
        needRange(letters, 0, MOST_COUNTED);
        int n = letters + 1;
        int sum = 0;
        for (int d = 1; d <= n; d += 2) {
            if (n % d == 0) {
                sum += primeSign(d) * (1 << n / d);
            }
        }
        return sum / (2 * n);
    }

    public int product(int word, int other) throws IndexOutOfBoundsException, IllegalStateException {
        needIndex(word, words.size());
        needIndex(other, words.size());
        Word first = words.get(word);
        Word second = words.get(other);
        int block = first.letters + 1;
        int letters = block * (second.letters + 1) - 1;
        if (letters > MOST_LETTERS) {
            throw new IllegalStateException("the product has too many letters");
        }
        needRoom(words.size(), MOST_WORDS);
        int changed = Word.isOdd(first.set) ? second.set ^ Word.allR(second.letters) : second.set;
        int set = 0;
        for (int k = 0; k <= second.letters; k++) {
            set |= first.set << k * block;
            set |= (changed >> k & 1) << k * block + first.letters;
        }
        return keepWord(letters, set);
    }

    public int factor(int word) throws IndexOutOfBoundsException {
        needIndex(word, words.size());
        Word told = words.get(word);
        int whole = told.letters + 1;
        for (int f = 2; f < whole; f++) {
            if (whole % f == 0 && told.repeatsBy(f)) {
                return f;
            }
        }
        return NONE;
    }

    public int patternOf(int word) throws IndexOutOfBoundsException, IllegalStateException {
        needIndex(word, words.size());
        Word told = words.get(word);
        if (told.letters < 1 || told.letters >= MOST_POINTS || !Word.isAboveTails(told.letters, told.set)) {
            throw new IllegalStateException("the word has no pattern");
        }
        needRoom(cycles.size(), MOST_PATTERNS);
        return keepCycle(told.tailImages());
    }

    // ---- angles

    public int angle(int p, int q, boolean isPeriod) throws IllegalArgumentException {
        needAngle(p, q);
        round.walkDoubled(p, q);
        return isPeriod ? round.period : round.ahead;
    }

    public int turn(int p, int q, int k) throws IllegalArgumentException {
        needAngle(p, q);
        needRange(k, 1, MOST_TURN);
        int at = p;
        for (int i = 1; i < k; i++) {
            at = 2 * at % q;
        }
        return Turns.turnAt(p, q, at);
    }

    public int address(int p, int q, int place) throws IndexOutOfBoundsException, IllegalArgumentException {
        if (place < 0) {
            throw new IndexOutOfBoundsException("no such place");
        }
        needAngle(p, q);
        return turns.numberAt(p, q, place);
    }

    public int companion(int p, int q) throws IllegalArgumentException, IllegalStateException {
        needAngle(p, q);
        round.walkDoubled(p, q);
        int period = round.period;
        if (round.ahead > 0 || period < LEAST_COMPANION_PERIOD || period > MOST_COMPANION_PERIOD) {
            throw new IllegalStateException("the angle has no companion");
        }
        return companions.partnerOf(period, p * ((1 << period) - 1) / q);
    }

    // ---- remainders

    public int remainder(int prime, int c, int x, boolean isPeriod) throws IllegalArgumentException {
        needPrime(prime);
        needRange(c, 0, prime - 1);
        needRange(x, 0, prime - 1);
        round.walkSquared(x, prime, c);
        return isPeriod ? round.period : round.ahead;
    }

    public int onCycles(int prime, int c) throws IllegalArgumentException {
        needPrime(prime);
        needRange(c, 0, prime - 1);
        return round.cyclicSquared(prime, c);
    }

    // ---- what is kept

    private int keepRule(Rule rule) {
        rules.add(rule);
        return rules.size() - 1;
    }

    private int keepCycle(int digits) {
        cycles.add(new Cycle(digits));
        return cycles.size() - 1;
    }

    private int keepWord(int letters, int set) {
        words.add(new Word(letters, set));
        return words.size() - 1;
    }

    // ---- what is refused

    private static void needIndex(int index, int size) {
        if (index < 0 || index >= size) {
            throw new IndexOutOfBoundsException("there is no such one");
        }
    }

    private static void needRange(int value, int least, int most) {
        if (value < least || value > most) {
            throw new IllegalArgumentException("out of range");
        }
    }

    private static void needFraction(int p, int q, int mostAbove, int mostBelow) {
        needRange(p, -mostAbove, mostAbove);
        needRange(q, 1, mostBelow);
    }

    private static void needAngle(int p, int q) {
        needRange(q, 1, MOST_BELOW);
        needRange(p, 0, q - 1);
    }

    private static void needPrime(int prime) {
        needRange(prime, 2, MOST_PRIME);
        for (int d = 2; d * d <= prime; d++) {
            if (prime % d == 0) {
                throw new IllegalArgumentException("not a prime");
            }
        }
    }

    private static void needRoom(int size, int most) {
        if (size >= most) {
            throw new IllegalStateException("there is no room for more");
        }
    }

    // ---- whole numbers

    private static int oddPart(int number) {
        int odd = number;
        for (int i = 0; i < 31 && odd % 2 == 0; i++) {
            odd /= 2;
        }
        // 0 has none; 1 keeps the answer a divisor.
        return odd == 0 ? 1 : odd;
    }

    /** 0 if a square above 1 divides the number, otherwise -1 for an odd number of primes, 1 for an even one. */
    private static int primeSign(int number) {
        int rest = number;
        int sign = 1;
        for (int d = 2; d <= number; d++) {
            if (rest % d == 0) {
                rest /= d;
                sign = -sign;
                if (rest % d == 0) {
                    return 0;
                }
            }
        }
        return sign;
    }

    /** Without a common divisor, the number below the line above 0. */
    private static final class Fraction {
        long above;
        long below;

        Fraction(long above, long below) {
            become(above, below);
        }

        /** The number below the line is taken to be above 0. */
        void become(long newAbove, long newBelow) {
            long divisor = commonDivisor(newAbove < 0 ? -newAbove : newAbove, newBelow);
            above = divisor > 1 ? newAbove / divisor : newAbove;
            below = divisor > 1 ? newBelow / divisor : newBelow;
        }

        void becomeTooLong() {
            above = MOST_IN_FRACTION + 1L;
            below = 1;
        }

        boolean isTooLong() {
            return above > MOST_IN_FRACTION || above < -MOST_IN_FRACTION || below > MOST_IN_FRACTION;
        }

        /** No product here leaves the range of long, as neither fraction is too long. */
        int against(Fraction other) {
            return Long.compare(above * other.below, other.above * below);
        }

        private static long commonDivisor(long a, long b) {
            long larger = a;
            long smaller = b;
            // The remainders fall at least by half in two steps, so 200 steps are enough for every long.
            for (int i = 0; i < 200 && smaller != 0; i++) {
                long rest = larger % smaller;
                larger = smaller;
                smaller = rest;
            }
            return larger;
        }
    }

    /** What a map makes of a fraction. */
    private abstract static class Rule {
        abstract boolean isToldAt(Fraction x);

        /** Asked only where the rule is told. */
        abstract void move(Fraction x);
    }

    private static final class Straight extends Rule {
        final ArrayList<Fraction> places = new ArrayList<Fraction>();
        final ArrayList<Fraction> heights = new ArrayList<Fraction>();

        boolean hasRoomBehind(Fraction place) {
            int size = places.size();
            return size < MOST_NODES && (size == 0 || places.get(size - 1).against(place) < 0);
        }

        int addNode(Fraction place, Fraction height) {
            places.add(place);
            heights.add(height);
            return places.size();
        }

        boolean isToldAt(Fraction x) {
            int size = places.size();
            return size > 0 && places.get(0).against(x) <= 0 && places.get(size - 1).against(x) >= 0;
        }

        void move(Fraction x) {
            int size = Math.min(places.size(), heights.size());
            for (int i = 0; i < size; i++) {
                int order = places.get(i).against(x);
                if (order == 0) {
                    x.become(heights.get(i).above, heights.get(i).below);
                    return;
                }
                if (order > 0 && i > 0) {
                    moveBetween(x, places.get(i - 1), heights.get(i - 1), places.get(i), heights.get(i));
                    return;
                }
            }
        }

        /**
         * With places and heights of up to 99 above the line and 9 below it, and x not too long, the number
         * above the line stays below 4e15 and the one below it below 2e14: long is wide enough.
         */
        private static void moveBetween(Fraction x, Fraction left, Fraction low, Fraction right, Fraction high) {
            long wide = right.above * left.below - left.above * right.below;
            long rise = high.above * low.below - low.above * high.below;
            long ahead = x.above * left.below - left.above * x.below;
            x.become(low.above * high.below * wide * x.below + ahead * rise * right.below,
                    low.below * high.below * wide * x.below);
        }
    }

    private static final class Squared extends Rule {
        /*
         * What x times x and c make together, p by q being c, has at least x.below * x.below / q below the line,
         * since x.above and x.below have no common divisor, and is divided by no more than q * q. So behind
         * these bounds, with q up to 99 and p up to 999, the next fraction is too long, whatever divides it;
         * up to them all products stay below 1e18.
         */
        private static final long MOST_ABOVE_TO_SQUARE = 100000000;
        private static final long MOST_BELOW_TO_SQUARE = 1000000;

        final long p;
        final long q;

        Squared(int p, int q) {
            this.p = p;
            this.q = q;
        }

        boolean isToldAt(Fraction x) {
            return true;
        }

        void move(Fraction x) {
            long a = x.above;
            long b = x.below;
            if (a > MOST_ABOVE_TO_SQUARE || a < -MOST_ABOVE_TO_SQUARE || b > MOST_BELOW_TO_SQUARE) {
                x.becomeTooLong();
            } else {
                x.become(a * a * q + p * b * b, b * b * q);
            }
        }
    }

    /** The orbit that was asked for last: its rows are used again by the next one. */
    private static final class Orbit {
        private static final int MOST_SIZE = 101;

        final long[] above = new long[MOST_SIZE];
        final long[] below = new long[MOST_SIZE];
        final Fraction next = new Fraction(0, 1);
        int size;
        int end;
        int period;

        void run(Rule rule, int p, int q) {
            size = 0;
            end = OPEN;
            period = 0;
            next.become(p, q);
            boolean goesOn = true;
            for (int i = 0; i < MOST_SIZE && goesOn; i++) {
                goesOn = takeNext() && size < MOST_SIZE && moveOn(rule);
            }
        }

        private boolean takeNext() {
            for (int i = 0; i < size; i++) {
                if (above[i] == next.above && below[i] == next.below) {
                    end = CYCLES;
                    period = size - i;
                    return false;
                }
            }
            if (size < MOST_SIZE) {
                above[size] = next.above;
                below[size] = next.below;
                size++;
            }
            return true;
        }

        private boolean moveOn(Rule rule) {
            if (!rule.isToldAt(next)) {
                end = LEAVES;
                return false;
            }
            rule.move(next);
            if (next.isTooLong()) {
                end = LOST;
                return false;
            }
            return true;
        }

        boolean stopsShort() {
            return end == LEAVES || end == LOST;
        }

        /** Where the point n stands in the rows; NONE if there is no such point. */
        int indexOf(int n) {
            if (n >= 0 && n < size) {
                return n;
            }
            if (n < 0 || period <= 0 || period > size) {
                return NONE;
            }
            int first = size - period;
            return first + (n - first) % period;
        }
    }

    /** A pattern; point and piece k are at index k of the rows. */
    private static final class Cycle {
        private static final int LEAST_DIGITS = 21;
        private static final int MOST_DIGITS = 87654321;
        // 7 to the power 6 rows there are at most.
        private static final int MOST_ROWS = 1000000;

        final int digits;
        final int points;
        final int[] image = new int[MOST_POINTS + 1];
        final int[] lowest = new int[MOST_POINTS + 1];
        final int[] highest = new int[MOST_POINTS + 1];
        final long[] waysFrom = new long[MOST_POINTS + 1];
        final long[] longerFrom = new long[MOST_POINTS + 1];
        final int[] row = new int[MOST_LOOP];

        /** The digits are taken to be those of a pattern. */
        Cycle(int digits) {
            this.digits = digits;
            points = Math.min(length(digits), MOST_POINTS);
            for (int k = 1; k <= points; k++) {
                image[k] = digitAt(digits, points - k);
            }
            for (int k = 1; k < points; k++) {
                lowest[k] = Math.min(image[k], image[k + 1]);
                highest[k] = Math.min(Math.max(image[k], image[k + 1]), points) - 1;
            }
        }

        /** Only if all points are gone through, from 1 on, one cycle takes just as many steps as there are points. */
        static boolean isTold(int digits) {
            if (digits < LEAST_DIGITS || digits > MOST_DIGITS) {
                return false;
            }
            int length = length(digits);
            int at = 1;
            int steps = 0;
            do {
                at = digitAt(digits, length - at);
                steps++;
            } while (steps < length && at > 1 && at <= length);
            return at == 1 && steps == length;
        }

        private static int length(int digits) {
            int length = 0;
            int rest = digits;
            for (int i = 0; i < 10 && rest != 0; i++) {
                rest /= 10;
                length++;
            }
            return length;
        }

        private static int digitAt(int digits, int fromBehind) {
            int rest = digits;
            for (int i = 0; i < fromBehind; i++) {
                rest /= 10;
            }
            return rest % 10;
        }

        boolean hasPiece(int piece) {
            return piece >= 1 && piece < points;
        }

        boolean reaches(int piece, int other) {
            return hasPiece(piece) && other >= lowest[piece] && other <= highest[piece];
        }

        long allWays(int n) {
            for (int k = 1; k < points; k++) {
                waysFrom[k] = 1;
            }
            for (int i = 1; i < n; i++) {
                lengthenWays();
            }
            long sum = 0;
            for (int k = 1; k < points; k++) {
                sum += waysFrom[k];
            }
            return sum;
        }

        private void lengthenWays() {
            for (int k = 1; k < points; k++) {
                longerFrom[k] = 0;
                for (int to = 1; to < points; to++) {
                    if (reaches(k, to)) {
                        longerFrom[k] += waysFrom[to];
                    }
                }
            }
            for (int k = 1; k < points; k++) {
                waysFrom[k] = longerFrom[k];
            }
        }

        /** Every prime loop of d pieces, gone through n by d times, is found once from each of its d pieces. */
        int primeLoops(int n) {
            long sum = 0;
            for (int d = 1; d <= n; d++) {
                if (n % d == 0) {
                    sum += primeSign(n / d) * closedWays(d);
                }
            }
            return n < 1 ? 0 : (int) (sum / n);
        }

        private long closedWays(int n) {
            long sum = 0;
            for (int start = 1; start < points; start++) {
                for (int k = 1; k < points; k++) {
                    waysFrom[k] = k == start ? 1 : 0;
                }
                for (int i = 0; i < n; i++) {
                    lengthenWays();
                }
                sum += waysFrom[start];
            }
            return sum;
        }

        int primeLoopsByRows(int n) {
            int length = Math.max(1, Math.min(n, MOST_LOOP));
            for (int i = 0; i < length; i++) {
                row[i] = 1;
            }
            int found = 0;
            boolean hasNext = true;
            for (int i = 0; i < MOST_ROWS && hasNext; i++) {
                int coveredTo = coveredTo(length);
                if (coveredTo == length && reaches(row[length - 1], row[0]) && isLeastTurned(length)) {
                    found++;
                }
                // All rows with the same pieces up to one that is not covered are no ways either.
                hasNext = goToNextRow(length, Math.min(coveredTo, length - 1));
            }
            return found;
        }

        private int coveredTo(int length) {
            for (int i = 1; i < length; i++) {
                if (!reaches(row[i - 1], row[i])) {
                    return i;
                }
            }
            return length;
        }

        private boolean goToNextRow(int length, int changed) {
            for (int i = changed + 1; i < length; i++) {
                row[i] = 1;
            }
            for (int i = changed; i >= 0; i--) {
                if (row[i] < points - 1) {
                    row[i]++;
                    return true;
                }
                row[i] = 1;
            }
            return false;
        }

        /** A row that is the same when turned is no prime loop; of the others one turned row alone is the least. */
        private boolean isLeastTurned(int length) {
            for (int by = 1; by < length; by++) {
                int order = 0;
                for (int i = 0; i < length && order == 0; i++) {
                    order = Integer.compare(row[i], row[(i + by) % length]);
                }
                if (order >= 0) {
                    return false;
                }
            }
            return true;
        }
    }

    /** A word, and words told by letters and set alone: the tail behind k letters is letters - k and set >> k. */
    private static final class Word {
        final int letters;
        final int set;

        Word(int letters, int set) {
            this.letters = letters;
            this.set = set;
        }

        static int allR(int letters) {
            return (1 << letters) - 1;
        }

        static boolean isOdd(int set) {
            return Integer.bitCount(set) % 2 == 1;
        }

        static char signAt(int letters, int set, int place) {
            if (place == letters) {
                return 'C';
            }
            return isR(set, place) ? 'R' : 'L';
        }

        private static boolean isR(int set, int place) {
            return (set >> place & 1) == 1;
        }

        private static int rankAt(int letters, int set, int place) {
            if (place == letters) {
                return 0;
            }
            return isR(set, place) ? 1 : -1;
        }

        static int order(int letters, int set, int otherLetters, int otherSet) {
            int last = Math.min(letters, otherLetters);
            for (int place = 0; place <= last; place++) {
                int order = Integer.compare(rankAt(letters, set, place), rankAt(otherLetters, otherSet, place));
                if (order != 0) {
                    return isOdd(set & allR(place)) ? -order : order;
                }
            }
            return 0;
        }

        static boolean isAboveTails(int letters, int set) {
            for (int k = 1; k <= letters; k++) {
                if (order(letters - k, set >> k, letters, set) > 0) {
                    return false;
                }
            }
            return true;
        }

        boolean repeatsBy(int f) {
            for (int place = 1; place <= letters; place++) {
                int rest = f > 0 ? place % f : 0;
                if (rest != 0 && isR(set, place - 1) != isR(set, rest - 1)) {
                    return false;
                }
            }
            return true;
        }

        /** The digits of its pattern. */
        int tailImages() {
            int digits = 0;
            for (int point = 1; point <= letters + 1; point++) {
                for (int k = 0; k <= letters; k++) {
                    if (tailPoint(k) == point) {
                        digits = digits * 10 + tailPoint(k < letters ? k + 1 : 0);
                    }
                }
            }
            return digits;
        }

        private int tailPoint(int k) {
            int point = 1;
            for (int other = 0; other <= letters; other++) {
                if (order(letters - other, set >> other, letters - k, set >> k) < 0) {
                    point++;
                }
            }
            return point;
        }
    }

    /** Steps from number to number below a size, counted until they come back; its row is used again. */
    private static final class Round {
        final int[] cameAs = new int[MOST_BELOW + 1];
        int ahead;
        int period;
        private int size;
        private boolean isSquaring;
        private int more;

        void walkDoubled(int x, int newSize) {
            begin(newSize, false, 0);
            walk(x, 1);
        }

        void walkSquared(int x, int newSize, int c) {
            begin(newSize, true, c);
            walk(x, 1);
        }

        int cyclicSquared(int newSize, int c) {
            begin(newSize, true, c);
            int sum = 0;
            int number = 1;
            for (int x = 0; x < size; x++) {
                number = walk(x, number);
                sum += period;
            }
            return sum;
        }

        private void begin(int newSize, boolean isSquaringNow, int c) {
            size = Math.max(1, Math.min(newSize, cameAs.length));
            isSquaring = isSquaringNow;
            more = c;
            for (int i = 0; i < size; i++) {
                cameAs[i] = 0;
            }
        }

        /**
         * Gives numbers from first on, up to one that has a number. Without a cycle, if that was given by an
         * earlier walk, the period is 0. Returns the next number to give.
         */
        private int walk(int x, int first) {
            int number = first;
            int at = Math.floorMod(x, size);
            for (int i = 0; i < size && cameAs[at] == 0; i++) {
                cameAs[at] = number;
                number++;
                at = Math.floorMod(isSquaring ? at * at + more : 2 * at, size);
            }
            period = cameAs[at] >= first ? number - cameAs[at] : 0;
            ahead = number - first - period;
            return number;
        }
    }

    /** The letters of an angle, at index k the letter k, and its address; the row is used again. */
    private static final class Turns {
        private static final int MOST_NUMBER = 64;

        final int[] letters = new int[MOST_NUMBER + 1];

        /** All is taken twice, and by q, so that no half is left. */
        static int turnAt(int p, int q, int at) {
            int twice = 2 * at;
            if (twice == p || twice == p + q) {
                return 2;
            }
            return twice > p && twice < p + q ? 1 : 0;
        }

        int numberAt(int p, int q, int place) {
            fillLetters(p, q);
            int number = 1;
            for (int i = 0; i < place && number != NONE; i++) {
                number = nextNumber(number);
            }
            return number;
        }

        private void fillLetters(int p, int q) {
            int at = p;
            for (int k = 1; k <= MOST_NUMBER; k++) {
                letters[k] = turnAt(p, q, at);
                at = q > 0 ? 2 * at % q : 0;
            }
        }

        private int nextNumber(int number) {
            if (number < 1 || number > MOST_NUMBER || letters[number] == 2) {
                return NONE;
            }
            for (int i = number + 1; i <= MOST_NUMBER; i++) {
                if (letters[i] == 2 || letters[i] != letters[i - number]) {
                    return i;
                }
            }
            return NONE;
        }
    }

    /** The pairs of companions; those of a period are joined when they are first asked for, and kept. */
    private static final class Companions {
        // All of 2 to the power 2 to 8, less 1, divide it: angles are compared by how many such parts they have.
        private static final int PARTS = 9 * 5 * 7 * 17 * 31 * 127;
        // There are 470 angles of the periods 2 to 8.
        private static final int MOST_PAIRS = 235;

        // The angle k of a period is at index 2 to the power of the period, and k; 0, of period 1, is no partner.
        final int[] partner = new int[2 << MOST_COMPANION_PERIOD];
        final int[] lowEnd = new int[MOST_PAIRS];
        final int[] highEnd = new int[MOST_PAIRS];
        private int pairs;
        private int joinedTo = LEAST_COMPANION_PERIOD - 1;

        int partnerOf(int period, int k) {
            for (int next = joinedTo + 1; next <= period; next++) {
                joinAll(next);
                joinedTo = next;
            }
            int at = (1 << period) + k;
            return at < partner.length && at >= 0 && partner[at] > 0 ? partner[at] : NONE;
        }

        private void joinAll(int period) {
            int base = 1 << period;
            for (int k = 1; k < base - 1; k++) {
                if (isFree(period, k)) {
                    joinLowest(period, k);
                }
            }
        }

        private void joinLowest(int period, int k) {
            int base = 1 << period;
            int part = PARTS / Math.max(1, base - 1);
            for (int other = k + 1; other < base - 1; other++) {
                if (isFree(period, other) && !crossesPair(k * part, other * part)) {
                    keepPair(base, k, other, part);
                    return;
                }
            }
        }

        private void keepPair(int base, int k, int other, int part) {
            if (base + other < partner.length && pairs < MOST_PAIRS) {
                partner[base + k] = other;
                partner[base + other] = k;
                lowEnd[pairs] = k * part;
                highEnd[pairs] = other * part;
                pairs++;
            }
        }

        private boolean isFree(int period, int k) {
            int at = (1 << period) + k;
            if (at < 0 || at >= partner.length || partner[at] != 0) {
                return false;
            }
            int whole = (1 << period) - 1;
            for (int shorter = 1; shorter < period; shorter++) {
                if (period % shorter == 0 && k % (whole / ((1 << shorter) - 1)) == 0) {
                    return false;
                }
            }
            return true;
        }

        private boolean crossesPair(int low, int high) {
            for (int i = 0; i < pairs; i++) {
                boolean isLowBetween = lowEnd[i] > low && lowEnd[i] < high;
                boolean isHighBetween = highEnd[i] > low && highEnd[i] < high;
                if (isLowBetween != isHighBetween) {
                    return true;
                }
            }
            return false;
        }
    }
}
