/** The boundary cases of promises 8 to 14, one test for each sentence that names one. */
public final class PatternBoundsTest {
    private static final Check CHECK = new Check();
    private static final int MOST = 1000000000;

    public static void main(String[] args) {
        forcesLeastAndGreatest();
        forcesJustOutside();
        forcesItself();
        forcesOddOnes();
        forcesTimesTwo();
        forcesPowersAtLast();
        patternLeastAndGreatest();
        patternOfTooFewOrTooMany();
        patternOfWrongDigits();
        patternOfMoreThanOneCycle();
        patternUpToTwelve();
        patternWhichException();
        imagesOfNoSuchPattern();
        imagesOfAllThatAreKept();
        coversNoSuchPattern();
        coversNoSuchPiece();
        coversTheLeast();
        coversItsBounds();
        waysLeastAndGreatest();
        waysJustOutside();
        waysOfOnePiece();
        waysAboveTwoToThe31();
        loopsLeastAndGreatest();
        loopsJustOutside();
        loopsOfOnePiece();
        loopsThatAreOne();
        loopsNone();
        CHECK.end();
    }

    // ---- promise 8

    private static void forces(int period, int other, boolean want) {
        Kneadery x = new Kneadery();
        String name = "forces(" + period + ", " + other + ")";
        CHECK.due(8, name, Check.one(want), () -> Check.one(x.forces(period, other)));
    }

    /** The one that is ahead forces the other one, which does not force it. */
    private static void ahead(int first, int second) {
        forces(first, second, true);
        forces(second, first, false);
    }

    private static void forcesLeastAndGreatest() {
        forces(1, 1, true);
        forces(MOST, MOST, true);
        ahead(MOST, 1);
        ahead(3, MOST);
        ahead(MOST - 1, MOST);
        ahead(3, 1);
        ahead(2, 1);
    }

    private static void forcesJustOutside() {
        Kneadery x = new Kneadery();
        for (int w : new int[] {0, -1, MOST + 1, MOST + 2, Check.LOWEST, Check.HIGHEST}) {
            CHECK.throwing(8, "forces(" + w + ", 1)", Check.ARGUMENT, () -> Check.one(x.forces(w, 1)));
            CHECK.throwing(8, "forces(" + w + ", 3)", Check.ARGUMENT, () -> Check.one(x.forces(w, 3)));
            CHECK.throwing(8, "forces(1, " + w + ")", Check.ARGUMENT, () -> Check.one(x.forces(1, w)));
            CHECK.throwing(8, "forces(3, " + w + ")", Check.ARGUMENT, () -> Check.one(x.forces(3, w)));
            CHECK.throwing(8, "forces(" + w + ", " + w + ")", Check.ARGUMENT, () -> Check.one(x.forces(w, w)));
        }
    }

    private static void forcesItself() {
        for (int period : new int[] {1, 2, 3, 4, 5, 6, 12, 1 << 29, 3 << 28, MOST - 1, MOST}) {
            forces(period, period, true);
        }
    }

    private static void forcesOddOnes() {
        ahead(3, 5);
        ahead(5, 7);
        ahead(3, 999999999);
        ahead(999999997, 999999999);
        ahead(9, 15);
    }

    /** All odd ones above 1, then 2 times these, then 4 times, up to 2 to the power 28. */
    private static void forcesTimesTwo() {
        ahead(999999999, 6);
        ahead(6, 10);
        ahead(999999998, 12);
        ahead(6, 999999998);
        ahead(12, 20);
        ahead(7 << 26, 3 << 27);
        ahead(3 << 27, 3 << 28);
        ahead(3 << 27, 5 << 27);
        ahead(5 << 27, 3 << 28);
        ahead(5 << 26, 7 << 26);
    }

    /** The powers of 2 come at last, falling. */
    private static void forcesPowersAtLast() {
        ahead(3 << 28, 1 << 29);
        ahead(3, 1 << 29);
        ahead(999999999, 2);
        ahead(6, 4);
        ahead(3 << 28, 1);
        for (int power = 1; power < 30; power++) {
            ahead(1 << power, 1 << power - 1);
            ahead(1 << power, 1);
        }
    }

    // ---- promise 9

    private static void told(int images, boolean isPattern) {
        Kneadery x = new Kneadery();
        if (isPattern) {
            CHECK.due(9, "pattern(" + images + ")", 0, () -> x.pattern(images));
            CHECK.due(10, "images of " + images, images, () -> x.images(0));
        } else {
            CHECK.throwing(9, "pattern(" + images + ")", Check.ARGUMENT, () -> x.pattern(images));
            CHECK.throwing(9, "none is kept of " + images, Check.INDEX, () -> x.images(0));
        }
    }

    /** Of each number of points; and what is just below the least of all, and just above the greatest. */
    private static void patternLeastAndGreatest() {
        int[][] rows = {{21, 21}, {231, 312}, {2341, 4312}, {23451, 54213}, {234561, 654213}, {2345671, 7653214},
            {23456781, 87653214}};
        for (int[] r : rows) {
            told(r[0], true);
            told(r[1], true);
            told(r[0] - 1, false);
            told(r[1] + 1, false);
        }
        told(20, false);
        told(22, false);
        told(87654321, false);
        told(87654312, false);
        told(87653215, false);
    }

    /** Points 1 to n, 2 to 8 of them. */
    private static void patternOfTooFewOrTooMany() {
        for (int images : new int[] {0, 1, 2, 9, 234567891, 912345678, 987654321, 123456789, 1234567890, 2100000021,
            Check.HIGHEST, Check.LOWEST, -1, -21, -231, -23456781}) {
            told(images, false);
        }
    }

    /** A digit 0, one above n, one that stands twice. */
    private static void patternOfWrongDigits() {
        for (int images : new int[] {10, 20, 30, 230, 201, 203, 2340, 2301, 23456780, 20456781, 31, 23, 29, 241, 291,
            239, 2351, 3491, 23456791, 93456781, 22, 33, 221, 233, 331, 2331, 2344, 23456777, 23456788, 22345678}) {
            told(images, false);
        }
    }

    private static void patternOfMoreThanOneCycle() {
        for (int images : new int[] {12, 11, 123, 132, 213, 321, 1342, 2143, 2314, 3412, 4321, 3214, 12345678, 21345678,
            13456782, 23456718, 21436587, 34567812, 56781234, 23156784}) {
            told(images, false);
        }
        told(2413, true);
        told(45678123, true);
        told(81234567, true);
    }

    private static void patternUpToTwelve() {
        Kneadery x = new Kneadery();
        x.word(1, 1);
        for (int i = 0; i < 11; i++) {
            int k = i;
            CHECK.due(9, "pattern " + k, k, () -> x.pattern(231));
        }
        CHECK.due(9, "the twelfth one", 11, () -> x.pattern(312));
        CHECK.throwing(9, "a thirteenth", Check.STATE, () -> x.pattern(21));
        CHECK.throwing(9, "a thirteenth again", Check.STATE, () -> x.pattern(312));
        CHECK.throwing(23, "a thirteenth of a word", Check.STATE, () -> x.patternOf(0));
        CHECK.due(10, "the first one is as it was", 231, () -> x.images(0));
        CHECK.due(10, "the last one too", 312, () -> x.images(11));
        CHECK.throwing(10, "there is no pattern 12", Check.INDEX, () -> x.images(12));
    }

    private static void patternWhichException() {
        Kneadery x = new Kneadery();
        for (int i = 0; i < 12; i++) {
            x.pattern(21);
        }
        for (int images : new int[] {0, 1, 12, 20, 22, 213, 234567891, -21, Check.LOWEST, Check.HIGHEST}) {
            CHECK.throwing(9, "no pattern goes ahead of no room: " + images, Check.ARGUMENT, () -> x.pattern(images));
        }
    }

    // ---- promise 10

    private static final int[] NONE_OF_TWO = {-1, 2, 3, 11, 12, 13, Check.LOWEST, Check.HIGHEST};

    private static Kneadery two() {
        Kneadery x = new Kneadery();
        x.pattern(21);
        x.pattern(23456781);
        return x;
    }

    private static void imagesOfNoSuchPattern() {
        Kneadery x = two();
        for (int pattern : NONE_OF_TWO) {
            CHECK.throwing(10, "images(" + pattern + ")", Check.INDEX, () -> x.images(pattern));
        }
        CHECK.due(10, "the first one", 21, () -> x.images(0));
        CHECK.due(10, "the last one", 23456781, () -> x.images(1));
    }

    private static void imagesOfAllThatAreKept() {
        Kneadery x = new Kneadery();
        int[] told = {21, 231, 312, 2341, 4312, 23451, 54213, 654213, 7653214, 87653214, 21, 231};
        for (int images : told) {
            x.pattern(images);
        }
        for (int i = 0; i < 12; i++) {
            int k = i;
            CHECK.due(10, "images(" + k + ")", told[k], () -> x.images(k));
        }
    }

    // ---- promise 11

    private static void coversNoSuchPattern() {
        Kneadery x = two();
        for (int pattern : NONE_OF_TWO) {
            CHECK.throwing(11, "covers(" + pattern + ", 1, 1)", Check.INDEX, () -> Check.one(x.covers(pattern, 1, 1)));
            CHECK.throwing(11, "covers(" + pattern + ", 0, 9)", Check.INDEX, () -> Check.one(x.covers(pattern, 0, 9)));
        }
    }

    private static void coversNoSuchPiece() {
        Kneadery x = two();
        int[] least = {0, 2, -1, 3, 8, Check.LOWEST, Check.HIGHEST};
        for (int piece : least) {
            CHECK.throwing(11, "covers(0, " + piece + ", 1)", Check.INDEX, () -> Check.one(x.covers(0, piece, 1)));
            CHECK.throwing(11, "covers(0, 1, " + piece + ")", Check.INDEX, () -> Check.one(x.covers(0, 1, piece)));
            CHECK.throwing(11, "covers(0, twice " + piece + ")", Check.INDEX,
                    () -> Check.one(x.covers(0, piece, piece)));
        }
        int[] greatest = {0, 8, -1, 9, 10, Check.LOWEST, Check.HIGHEST};
        for (int piece : greatest) {
            for (int right : new int[] {1, 7}) {
                CHECK.throwing(11, "covers(1, " + piece + ", " + right + ")", Check.INDEX,
                        () -> Check.one(x.covers(1, piece, right)));
                CHECK.throwing(11, "covers(1, " + right + ", " + piece + ")", Check.INDEX,
                        () -> Check.one(x.covers(1, right, piece)));
            }
        }
    }

    private static void coversTheLeast() {
        Kneadery x = two();
        CHECK.due(11, "the one piece of 21", 1, () -> Check.one(x.covers(0, 1, 1)));
    }

    /** All pieces between the images of both ends, and none below or above. */
    private static void coversItsBounds() {
        Kneadery x = two();
        for (int piece = 1; piece <= 6; piece++) {
            for (int other = 1; other <= 7; other++) {
                int from = piece;
                int to = other;
                CHECK.due(11, "covers(1, " + from + ", " + to + ")", Check.one(to == from + 1),
                        () -> Check.one(x.covers(1, from, to)));
            }
        }
        for (int other = 1; other <= 7; other++) {
            int to = other;
            CHECK.due(11, "covers(1, 7, " + to + "), all", 1, () -> Check.one(x.covers(1, 7, to)));
        }
        // The images rise and fall, each piece's by 3 or more.
        Kneadery y = new Kneadery();
        y.pattern(362514);
        boolean[][] due = {{false, false, true, true, true}, {false, true, true, true, true},
            {false, true, true, true, false}, {true, true, true, true, false}, {true, true, true, false, false}};
        for (int piece = 1; piece <= 5; piece++) {
            for (int other = 1; other <= 5; other++) {
                int from = piece;
                int to = other;
                CHECK.due(11, "of 362514: " + from + " " + to, Check.one(due[from - 1][to - 1]),
                        () -> Check.one(y.covers(0, from, to)));
            }
        }
    }

    // ---- promise 12

    private static void waysLeastAndGreatest() {
        Kneadery x = new Kneadery();
        x.pattern(231);
        x.pattern(23456781);
        CHECK.due(12, "of one piece", 2, () -> x.ways(0, 1));
        CHECK.due(12, "of two pieces", 3, () -> x.ways(0, 2));
        CHECK.due(12, "of 19 pieces", 10946, () -> x.ways(0, 19));
        CHECK.due(12, "of 20 pieces", 17711, () -> x.ways(0, 20));
        CHECK.due(12, "of one of 7 pieces", 7, () -> x.ways(1, 1));
        CHECK.due(12, "of two of 7 pieces", 13, () -> x.ways(1, 2));
    }

    private static void waysJustOutside() {
        Kneadery x = two();
        for (int n : new int[] {0, -1, 21, 22, Check.LOWEST, Check.HIGHEST}) {
            CHECK.throwing(12, "ways(0, " + n + ")", Check.ARGUMENT, () -> x.ways(0, n));
            CHECK.throwing(12, "ways(1, " + n + ")", Check.ARGUMENT, () -> x.ways(1, n));
        }
        for (int pattern : NONE_OF_TWO) {
            CHECK.throwing(12, "ways(" + pattern + ", 1)", Check.INDEX, () -> x.ways(pattern, 1));
            CHECK.throwing(12, "ways(" + pattern + ", 0)", Check.INDEX, () -> x.ways(pattern, 0));
            CHECK.throwing(12, "ways(" + pattern + ", 21)", Check.INDEX, () -> x.ways(pattern, 21));
        }
    }

    private static void waysOfOnePiece() {
        Kneadery x = two();
        for (int n = 1; n <= 20; n++) {
            int k = n;
            CHECK.due(12, "of 21, " + k, 1, () -> x.ways(0, k));
        }
    }

    /** More than an int holds. */
    private static void waysAboveTwoToThe31() {
        Kneadery x = new Kneadery();
        x.pattern(24153);
        x.pattern(362514);
        x.pattern(46182735);
        CHECK.due(12, "of 24153", 3302507761L, () -> x.ways(0, 20));
        CHECK.due(12, "of 362514", 110670148969L, () -> x.ways(1, 20));
        CHECK.due(12, "of 46182735", 120615043536507L, () -> x.ways(2, 20));
        for (int pattern = 0; pattern < 3; pattern++) {
            int k = pattern;
            String images = new String[] {"24153", "362514", "46182735"}[k];
            CHECK.due(12, "by the test's own count, " + images, PatternOracle.ways(images, 20), () -> x.ways(k, 20));
        }
    }

    // ---- promises 13 and 14

    private static void loops(Kneadery x, int pattern, int n, int want) {
        CHECK.due(13, "loops(" + pattern + ", " + n + ")", want, () -> x.loops(pattern, n));
        CHECK.due(14, "loopsAnew(" + pattern + ", " + n + ")", want, () -> x.loopsAnew(pattern, n));
    }

    private static void loopsLeastAndGreatest() {
        Kneadery x = new Kneadery();
        x.pattern(231);
        x.pattern(46182735);
        x.pattern(2413);
        loops(x, 0, 1, 1);
        loops(x, 0, 5, 2);
        loops(x, 0, 6, 2);
        int[] most = {5, 11, 40, 151, 624, 2584};
        for (int n = 1; n <= 6; n++) {
            loops(x, 1, n, most[n - 1]);
        }
        loops(x, 2, 6, 30);
    }

    private static void loopsJustOutside() {
        Kneadery x = two();
        for (int n : new int[] {0, -1, 7, 8, 20, Check.LOWEST, Check.HIGHEST}) {
            for (int pattern = 0; pattern < 2; pattern++) {
                int k = pattern;
                CHECK.throwing(13, "loops(" + k + ", " + n + ")", Check.ARGUMENT, () -> x.loops(k, n));
                CHECK.throwing(14, "loopsAnew(" + k + ", " + n + ")", Check.ARGUMENT, () -> x.loopsAnew(k, n));
            }
        }
        for (int pattern : NONE_OF_TWO) {
            for (int n : new int[] {0, 1, 6, 7}) {
                CHECK.throwing(13, "loops(" + pattern + ", " + n + ")", Check.INDEX, () -> x.loops(pattern, n));
                CHECK.throwing(14, "loopsAnew(" + pattern + ", " + n + ")", Check.INDEX, () -> x.loopsAnew(pattern, n));
            }
        }
    }

    /** Gone through more than once, the loop of one piece is no prime one. */
    private static void loopsOfOnePiece() {
        Kneadery x = two();
        for (int n = 1; n <= 6; n++) {
            loops(x, 0, n, n == 1 ? 1 : 0);
        }
    }

    /** Two that are the same but for where they begin are one: 1 2, and 2 1. */
    private static void loopsThatAreOne() {
        Kneadery x = new Kneadery();
        x.pattern(312);
        loops(x, 0, 1, 1);
        loops(x, 0, 2, 1);
        loops(x, 0, 3, 1);
        loops(x, 0, 4, 1);
    }

    private static void loopsNone() {
        Kneadery x = new Kneadery();
        x.pattern(3421);
        x.pattern(56783421);
        loops(x, 0, 6, 0);
        loops(x, 1, 6, 0);
        loops(x, 0, 1, 1);
        loops(x, 0, 2, 1);
        loops(x, 0, 4, 0);
        loops(x, 0, 3, 0);
        loops(x, 0, 5, 0);
    }
}
