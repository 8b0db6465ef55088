/** Promises 1 to 7: new objects, and maps. */
public final class MapsTest {
    private static final Check CHECK = new Check();

    public static void main(String[] args) {
        newObject();
        objectsAreApart();
        straight();
        nodeRanges();
        nodeOrder();
        nodeLimit();
        nodeOfWhichMap();
        squared();
        mapsTogether();
        mapOf();
        orbitWrong();
        pointWrong();
        withoutNodes();
        oneNode();
        openAtHundred();
        lengthLimit();
        squaredByHand();
        tentOrbits();
        mixedStraight();
        mixedSquared();
        askingChangesNothing();
        CHECK.end();
    }

    private static void newObject() {
        Kneadery x = new Kneadery();
        CHECK.throwing(1, "orbit(0, ..)", Check.INDEX, () -> x.orbit(0, 0, 1, 0));
        CHECK.throwing(1, "point(0, ..)", Check.INDEX, () -> x.point(0, 0, 1, 0, true));
        CHECK.throwing(1, "node(0, ..)", Check.INDEX, () -> x.node(0, 0, 1, 0, 1));
        CHECK.throwing(1, "mapOf(0)", Check.INDEX, () -> x.mapOf(0));
        CHECK.throwing(1, "images(0)", Check.INDEX, () -> x.images(0));
        CHECK.throwing(1, "covers(0, 1, 1)", Check.INDEX, () -> Check.one(x.covers(0, 1, 1)));
        CHECK.throwing(1, "letter(0, 0)", Check.INDEX, () -> x.letter(0, 0));
        CHECK.throwing(1, "compare(0, 0)", Check.INDEX, () -> x.compare(0, 0));
        CHECK.throwing(1, "product(0, 0)", Check.INDEX, () -> x.product(0, 0));
        CHECK.due(1, "first straight()", 0, () -> x.straight());
        CHECK.due(1, "first pattern(21)", 0, () -> x.pattern(21));
        CHECK.due(1, "first word(0, 0)", 0, () -> x.word(0, 0));
    }

    private static void objectsAreApart() {
        Kneadery x = new Kneadery();
        Kneadery y = new Kneadery();
        x.straight();
        x.pattern(231);
        x.word(1, 1);
        CHECK.throwing(1, "another object's map", Check.INDEX, () -> y.orbit(0, 0, 1, 0));
        CHECK.throwing(1, "another object's pattern", Check.INDEX, () -> y.images(0));
        CHECK.throwing(1, "another object's word", Check.INDEX, () -> y.letter(0, 0));
        CHECK.due(1, "squared in the other object", 0, () -> y.squared(1, 1));
    }

    private static void straight() {
        Kneadery x = new Kneadery();
        for (int i = 0; i < 12; i++) {
            CHECK.due(2, "straight", i, () -> x.straight());
        }
        CHECK.throwing(2, "a thirteenth straight", Check.STATE, () -> x.straight());
        CHECK.throwing(2, "there is no map 12", Check.INDEX, () -> x.node(12, 0, 1, 0, 1));
        CHECK.due(2, "the map 11 has no nodes", 1, () -> x.node(11, 0, 1, 0, 1));
    }

    private static void nodeRanges() {
        Kneadery x = new Kneadery();
        x.straight();
        int[][] wrong = {{-100, 1, 0, 1}, {100, 1, 0, 1}, {0, 0, 0, 1}, {0, 10, 0, 1}, {0, -1, 0, 1},
            {0, 1, -100, 1}, {0, 1, 100, 1}, {0, 1, 0, 0}, {0, 1, 0, 10}, {0, 1, 0, -1},
            {Check.LOWEST, 1, 0, 1}, {0, Check.LOWEST, 0, 1}, {0, 1, Check.HIGHEST, 1}, {0, 1, 0, Check.HIGHEST}};
        for (int[] w : wrong) {
            CHECK.throwing(3, "node out of range", Check.ARGUMENT, () -> x.node(0, w[0], w[1], w[2], w[3]));
            CHECK.throwing(3, "node out of range, no map", Check.INDEX, () -> x.node(1, w[0], w[1], w[2], w[3]));
        }
        CHECK.due(3, "node at -99", 1, () -> x.node(0, -99, 1, 99, 1));
        CHECK.due(3, "node at -99/9", 2, () -> x.node(0, -99, 9, -99, 9));
        CHECK.due(3, "node at 99", 3, () -> x.node(0, 99, 1, -99, 1));
        for (int[] w : wrong) {
            CHECK.throwing(3, "node out of range ahead of its order", Check.ARGUMENT,
                    () -> x.node(0, w[0], w[1], w[2], w[3]));
        }
        CHECK.due(3, "orbit from -99", 99, () -> x.point(0, -99, 1, 1, false));
        CHECK.due(3, "orbit from -11", -11, () -> x.point(0, -11, 1, 1, false));
    }

    private static void nodeOrder() {
        Kneadery x = new Kneadery();
        x.straight();
        CHECK.due(3, "node at 1/3", 1, () -> x.node(0, 1, 3, 0, 1));
        CHECK.throwing(3, "node at 3/9 again", Check.STATE, () -> x.node(0, 3, 9, 5, 1));
        CHECK.throwing(3, "node at 2/7 below", Check.STATE, () -> x.node(0, 2, 7, 5, 1));
        CHECK.throwing(3, "node at -1 below", Check.STATE, () -> x.node(0, -1, 1, 5, 1));
        CHECK.due(3, "node at 3/8", 2, () -> x.node(0, 3, 8, 0, 1));
        CHECK.throwing(3, "node at 1/3 behind 3/8", Check.STATE, () -> x.node(0, 1, 3, 5, 1));
        CHECK.throwing(3, "node at 3/8 again", Check.STATE, () -> x.node(0, 3, 8, 5, 1));
        CHECK.due(3, "what was refused is no node", 3, () -> x.node(0, 2, 5, 1, 1));
        CHECK.due(3, "the height at 1/3 is the first one told", 0, () -> x.point(0, 1, 3, 1, false));
    }

    private static void nodeLimit() {
        Kneadery x = new Kneadery();
        x.squared(0, 1);
        x.straight();
        for (int i = 0; i < 8; i++) {
            int k = i;
            CHECK.due(3, "node", k + 1, () -> x.node(1, k, 1, k, 1));
        }
        CHECK.throwing(3, "a ninth node", Check.STATE, () -> x.node(1, 20, 1, 0, 1));
        CHECK.throwing(3, "a ninth node out of range", Check.ARGUMENT, () -> x.node(1, 200, 1, 0, 1));
        CHECK.due(3, "still told up to 7", Kneadery.CYCLES, () -> x.orbit(1, 7, 1, 0));
        CHECK.due(3, "not told behind 7", Kneadery.LEAVES, () -> x.orbit(1, 8, 1, 0));
    }

    private static void nodeOfWhichMap() {
        Kneadery x = new Kneadery();
        x.squared(0, 1);
        x.straight();
        x.straight();
        CHECK.throwing(3, "node of a squared map", Check.INDEX, () -> x.node(0, 0, 1, 0, 1));
        CHECK.throwing(3, "node of a squared map, out of range", Check.INDEX, () -> x.node(0, 100, 0, 100, 0));
        CHECK.throwing(3, "node of -1", Check.INDEX, () -> x.node(-1, 0, 1, 0, 1));
        CHECK.throwing(3, "node of 3", Check.INDEX, () -> x.node(3, 0, 1, 0, 1));
        CHECK.throwing(3, "node of the lowest", Check.INDEX, () -> x.node(Check.LOWEST, 0, 1, 0, 1));
        CHECK.throwing(3, "node of the highest", Check.INDEX, () -> x.node(Check.HIGHEST, 0, 1, 0, 1));
        CHECK.due(3, "node of 2", 1, () -> x.node(2, 0, 1, 0, 1));
        CHECK.due(3, "the map 1 has none", Kneadery.LEAVES, () -> x.orbit(1, 0, 1, 0));
        CHECK.due(3, "the map 2 has it", Kneadery.CYCLES, () -> x.orbit(2, 0, 1, 0));
    }

    private static void squared() {
        Kneadery x = new Kneadery();
        int[][] wrong = {{-1000, 1}, {1000, 1}, {0, 0}, {0, -1}, {0, 100}, {Check.LOWEST, 1}, {Check.HIGHEST, 1},
            {0, Check.LOWEST}, {0, Check.HIGHEST}};
        for (int[] w : wrong) {
            CHECK.throwing(4, "squared out of range", Check.ARGUMENT, () -> x.squared(w[0], w[1]));
        }
        int[][] right = {{-999, 1}, {999, 1}, {-999, 99}, {999, 99}, {0, 99}, {0, 1}, {50, 98}};
        for (int i = 0; i < right.length; i++) {
            int k = i;
            CHECK.due(4, "squared", k, () -> x.squared(right[k][0], right[k][1]));
        }
        CHECK.due(4, "c is -999", -999, () -> x.point(0, 0, 1, 1, false));
        CHECK.due(4, "c is -111/11, above", -111, () -> x.point(2, 0, 1, 1, false));
        CHECK.due(4, "c is -111/11, below", 11, () -> x.point(2, 0, 1, 1, true));
        CHECK.due(4, "0/99 is 0/1", 1, () -> x.point(4, 0, 1, 1, true));
        CHECK.due(4, "50/98 is 25/49", 49, () -> x.point(6, 0, 1, 1, true));
    }

    private static void mapsTogether() {
        Kneadery x = new Kneadery();
        x.pattern(21);
        for (int i = 0; i < 12; i++) {
            int k = i;
            CHECK.due(4, "the maps are numbered together", k,
                    () -> k % 3 == 0 ? x.straight() : k % 3 == 1 ? x.squared(k, 1) : x.mapOf(0));
        }
        CHECK.throwing(2, "straight of 13", Check.STATE, () -> x.straight());
        CHECK.throwing(4, "squared of 13", Check.STATE, () -> x.squared(0, 1));
        CHECK.throwing(4, "squared of 13, out of range", Check.ARGUMENT, () -> x.squared(0, 0));
        CHECK.throwing(5, "mapOf of 13", Check.STATE, () -> x.mapOf(0));
        CHECK.throwing(5, "mapOf of 13, no pattern", Check.INDEX, () -> x.mapOf(1));
        CHECK.due(4, "the map 10 is still there", 10, () -> x.point(10, 0, 1, 1, false));
        CHECK.due(9, "patterns are apart from maps", 1, () -> x.pattern(231));
        CHECK.due(15, "words are apart from maps", 0, () -> x.word(0, 0));
    }

    private static void mapOf() {
        Kneadery x = new Kneadery();
        x.pattern(21);
        x.pattern(3421);
        x.pattern(23456781);
        x.pattern(23451);
        CHECK.throwing(5, "mapOf(-1)", Check.INDEX, () -> x.mapOf(-1));
        CHECK.throwing(5, "mapOf(4)", Check.INDEX, () -> x.mapOf(4));
        CHECK.throwing(5, "mapOf(lowest)", Check.INDEX, () -> x.mapOf(Check.LOWEST));
        CHECK.throwing(5, "mapOf(highest)", Check.INDEX, () -> x.mapOf(Check.HIGHEST));
        CHECK.due(5, "mapOf(1)", 0, () -> x.mapOf(1));
        CHECK.due(5, "mapOf(1) again", 1, () -> x.mapOf(1));
        CHECK.due(5, "mapOf(2)", 2, () -> x.mapOf(2));
        CHECK.due(5, "mapOf(0)", 3, () -> x.mapOf(0));
        int[] image = {3, 4, 2, 1};
        for (int k = 1; k <= 4; k++) {
            int at = k;
            CHECK.due(5, "image of " + k, image[k - 1], () -> x.point(0, at, 1, 1, false));
            CHECK.due(5, "period of " + k, 4, () -> x.orbit(0, at, 1, 2));
        }
        CHECK.due(5, "3/2 goes to 7/2", 7, () -> x.point(0, 3, 2, 1, false));
        CHECK.due(5, "behind 4", Kneadery.LEAVES, () -> x.orbit(0, 9, 2, 0));
        CHECK.due(5, "ahead of 1", Kneadery.LEAVES, () -> x.orbit(0, 1, 2, 0));
        CHECK.due(5, "eight points", 8, () -> x.orbit(2, 5, 1, 2));
        CHECK.due(5, "two points", 2, () -> x.orbit(3, 2, 1, 2));
        CHECK.due(5, "3/2 stays", 1, () -> x.orbit(3, 3, 2, 2));
        CHECK.due(3, "a fifth node", 5, () -> x.node(0, 5, 1, 1, 1));
        CHECK.throwing(3, "a node at 4 again", Check.STATE, () -> x.node(1, 4, 1, 1, 1));
        CHECK.throwing(3, "a ninth node of a pattern's map", Check.STATE, () -> x.node(2, 9, 1, 1, 1));
        CHECK.due(5, "the pattern is as it was", 3421, () -> x.images(1));
        CHECK.due(5, "the other map of it too", Kneadery.LEAVES, () -> x.orbit(1, 5, 1, 0));
        CHECK.due(5, "the map with five nodes", Kneadery.CYCLES, () -> x.orbit(0, 5, 1, 0));
    }

    private static void orbitWrong() {
        Kneadery x = new Kneadery();
        x.squared(0, 1);
        x.straight();
        int[][] wrong = {{10000, 1, 0}, {-10000, 1, 0}, {0, 0, 0}, {0, 10000, 0}, {0, -1, 0}, {0, 1, -1}, {0, 1, 4},
            {Check.LOWEST, 1, 0}, {Check.HIGHEST, 1, 0}, {0, Check.LOWEST, 0}, {0, Check.HIGHEST, 0},
            {0, 1, Check.LOWEST}, {0, 1, Check.HIGHEST}};
        for (int[] w : wrong) {
            CHECK.throwing(6, "orbit out of range", Check.ARGUMENT, () -> x.orbit(0, w[0], w[1], w[2]));
            CHECK.throwing(6, "orbit of a straight map out of range", Check.ARGUMENT,
                    () -> x.orbit(1, w[0], w[1], w[2]));
            CHECK.throwing(6, "orbit out of range, no map", Check.INDEX, () -> x.orbit(2, w[0], w[1], w[2]));
        }
        CHECK.throwing(6, "orbit of -1", Check.INDEX, () -> x.orbit(-1, 0, 1, 0));
        CHECK.throwing(6, "orbit of 2", Check.INDEX, () -> x.orbit(2, 0, 1, 0));
        CHECK.throwing(6, "orbit of the lowest", Check.INDEX, () -> x.orbit(Check.LOWEST, 0, 1, 0));
        CHECK.throwing(6, "orbit of the highest", Check.INDEX, () -> x.orbit(Check.HIGHEST, 0, 1, 0));
        CHECK.due(6, "orbit of 9999/9999", 1, () -> x.orbit(0, 9999, 9999, 2));
        CHECK.due(6, "orbit of -9999/9999", 2, () -> x.orbit(0, -9999, 9999, 1));
    }

    private static void pointWrong() {
        Kneadery x = new Kneadery();
        x.squared(0, 1);
        x.straight();
        int[][] wrong = {{10000, 1, 0}, {-10000, 1, 0}, {0, 0, 0}, {0, 10000, 0}, {0, -1, 0}, {0, 1, -1}, {0, 1, 1001},
            {Check.LOWEST, 1, 0}, {Check.HIGHEST, 1, 0}, {0, Check.LOWEST, 0}, {0, Check.HIGHEST, 0},
            {0, 1, Check.LOWEST}, {0, 1, Check.HIGHEST}};
        for (int[] w : wrong) {
            CHECK.throwing(7, "point out of range", Check.ARGUMENT, () -> x.point(0, w[0], w[1], w[2], true));
            CHECK.throwing(7, "point of a straight map out of range", Check.ARGUMENT,
                    () -> x.point(1, w[0], w[1], w[2], false));
            CHECK.throwing(7, "point out of range, no map", Check.INDEX, () -> x.point(2, w[0], w[1], w[2], true));
        }
        CHECK.throwing(7, "point of -1", Check.INDEX, () -> x.point(-1, 0, 1, 0, true));
        CHECK.throwing(7, "point of the lowest", Check.INDEX, () -> x.point(Check.LOWEST, 0, 1, 0, true));
        CHECK.throwing(7, "point of the highest", Check.INDEX, () -> x.point(Check.HIGHEST, 0, 1, 0, true));
        CHECK.due(7, "point 1000 of 1", 1, () -> x.point(0, 1, 1, 1000, false));
        CHECK.due(7, "point 0 of 6/4, above", 3, () -> x.point(0, 6, 4, 0, false));
        CHECK.due(7, "point 0 of 6/4, below", 2, () -> x.point(0, 6, 4, 0, true));
        CHECK.due(7, "point 0 of -6/4", -3, () -> x.point(0, -6, 4, 0, false));
        int[][] edges = {{9999, 1}, {-9999, 1}, {1, 9999}, {9998, 9999}, {-9998, 9999}, {9999, 9998}};
        for (int[] e : edges) {
            CHECK.due(6, "orbit of " + e[0] + "/" + e[1], Kneadery.LOST, () -> x.orbit(0, e[0], e[1], 0));
            CHECK.due(7, "point 0 of " + e[0] + "/" + e[1], e[0], () -> x.point(0, e[0], e[1], 0, false));
            CHECK.due(7, "point 0 below " + e[0] + "/" + e[1], e[1], () -> x.point(0, e[0], e[1], 0, true));
        }
        CHECK.due(7, "point 0 of 0/77", 1, () -> x.point(0, 0, 77, 0, true));
        CHECK.throwing(7, "point 1000 of 2", Check.STATE, () -> x.point(0, 2, 1, 1000, false));
        CHECK.throwing(7, "point 1 without nodes", Check.STATE, () -> x.point(1, 2, 1, 1, true));
    }

    private static void withoutNodes() {
        Kneadery x = new Kneadery();
        x.straight();
        CHECK.due(6, "how it ends", Kneadery.LEAVES, () -> x.orbit(0, 0, 1, 0));
        CHECK.due(6, "its points", 1, () -> x.orbit(0, 0, 1, 1));
        CHECK.due(6, "its period", 0, () -> x.orbit(0, 0, 1, 2));
        CHECK.due(6, "its step", 0, () -> x.orbit(0, 0, 1, 3));
        CHECK.due(7, "its point 0", 0, () -> x.point(0, 0, 5, 0, false));
    }

    private static void oneNode() {
        Kneadery x = new Kneadery();
        x.straight();
        x.node(0, 1, 2, 1, 2);
        x.straight();
        x.node(1, 1, 2, 1, 3);
        CHECK.due(6, "at the node", Kneadery.CYCLES, () -> x.orbit(0, 3, 6, 0));
        CHECK.due(6, "at the node, its step", Kneadery.NONE, () -> x.orbit(0, 3, 6, 3));
        CHECK.due(6, "below the node", Kneadery.LEAVES, () -> x.orbit(0, 4999, 9999, 0));
        CHECK.due(6, "above the node", Kneadery.LEAVES, () -> x.orbit(0, 5000, 9999, 0));
        CHECK.due(6, "at the node, then away", 1, () -> x.orbit(1, 1, 2, 3));
        CHECK.due(6, "at the node, then away: points", 2, () -> x.orbit(1, 1, 2, 1));
        CHECK.due(7, "the height", 3, () -> x.point(1, 1, 2, 1, true));
    }

    /** By x and 1 to x, up to 98: what the map makes of the point 100 does not matter. */
    private static void openAtHundred() {
        Kneadery x = new Kneadery();
        x.straight();
        x.node(0, -99, 1, -98, 1);
        x.node(0, 98, 1, 99, 1);
        CHECK.due(6, "from 0", Kneadery.LEAVES, () -> x.orbit(0, 0, 1, 0));
        CHECK.due(6, "from 0, points", 100, () -> x.orbit(0, 0, 1, 1));
        CHECK.due(6, "from 0, step", 99, () -> x.orbit(0, 0, 1, 3));
        CHECK.due(6, "from -1", Kneadery.OPEN, () -> x.orbit(0, -1, 1, 0));
        CHECK.due(6, "from -1, points", 101, () -> x.orbit(0, -1, 1, 1));
        CHECK.due(6, "from -1, period", 0, () -> x.orbit(0, -1, 1, 2));
        CHECK.due(6, "from -1, step", Kneadery.NONE, () -> x.orbit(0, -1, 1, 3));
        CHECK.due(6, "from -50", Kneadery.OPEN, () -> x.orbit(0, -50, 1, 0));
        CHECK.due(7, "from -1, point 100", 99, () -> x.point(0, -1, 1, 100, false));
        CHECK.throwing(7, "from -1, point 101", Check.STATE, () -> x.point(0, -1, 1, 101, false));
        CHECK.throwing(7, "from -50, point 101", Check.STATE, () -> x.point(0, -50, 1, 101, false));
        CHECK.due(7, "from 0, point 99", 99, () -> x.point(0, 0, 1, 99, false));
        CHECK.throwing(7, "from 0, point 100", Check.STATE, () -> x.point(0, 0, 1, 100, false));

        // Behind 0 the fractions grow long: they are lost at the point 98 or 99, or not, as the point 100 has come.
        int[][] nodes = {{-99, 1, -98, 1}, {0, 1, 1, 9}, {97, 9, 89, 8}};
        for (int k = -99; k <= 0; k++) {
            Kneadery y = new Kneadery();
            MapOracle oracle = told(y, nodes);
            compareOrbit(y, 0, oracle, 100 * k + 7, 100, -k);
        }
    }

    private static MapOracle told(Kneadery x, int[][] nodes) {
        MapOracle oracle = new MapOracle();
        int map = x.straight();
        for (int[] n : nodes) {
            x.node(map, n[0], n[1], n[2], n[3]);
            oracle.node(n[0], n[1], n[2], n[3]);
        }
        return oracle;
    }

    /** Up to 1000000000, above and below the line, is not too long. */
    private static void lengthLimit() {
        Kneadery x = new Kneadery();
        MapOracle tenth = told(x, new int[][] {{-90, 1, -9, 1}, {90, 1, 9, 1}});
        CHECK.due(6, "tenths", Kneadery.LOST, () -> x.orbit(0, 1, 1, 0));
        CHECK.due(6, "tenths, points", 10, () -> x.orbit(0, 1, 1, 1));
        CHECK.due(6, "tenths, step", 9, () -> x.orbit(0, 1, 1, 3));
        CHECK.due(7, "tenths, point 9", 1000000000, () -> x.point(0, 1, 1, 9, true));
        CHECK.throwing(7, "tenths, point 10", Check.STATE, () -> x.point(0, 1, 1, 10, true));
        CHECK.due(7, "tenths from -3", -3, () -> x.point(0, -3, 1, 9, false));
        compareOrbit(x, 0, tenth, -7, 1, 12);

        // Starts and c whose point 1 has just that number above the line, found by going through all.
        int[][] most = {{8770, 21, 300, 13}, {4940, 37, -400, 41}, {4609, 43, 857, 47}, {5675, 51, 625, 31}};
        int[][] least = {{663, 1069, -907, 83}, {773, 1089, -879, 71}, {1204, 1159, -752, 7}, {2956, 1159, -816, 11}};
        int[][] above = {{5000, 1, 1, 40}, {4939, 12, -990, 41}, {4939, 18, -440, 41}, {3353, 30, -658, 89}};
        int[][] below = {{405, 1081, -866, 73}, {44, 1101, -825, 34}, {1055, 1132, -849, 79}, {1411, 1146, -863, 67}};
        notTooLong(most, 1000000000);
        notTooLong(least, -1000000000);
        tooLong(above);
        tooLong(below);
    }

    private static void notTooLong(int[][] cases, int want) {
        for (int[] c : cases) {
            Kneadery x = new Kneadery();
            x.squared(c[2], c[3]);
            CHECK.due(7, "the point 1", want, () -> x.point(0, c[0], c[1], 1, false));
            CHECK.due(7, "of the other sign", want, () -> x.point(0, -c[0], c[1], 1, false));
            CHECK.due(6, "it has two points", 2, () -> x.orbit(0, c[0], c[1], 1));
            compareOrbit(x, 0, new MapOracle(c[2], c[3]), c[0], c[1], 1);
        }
    }

    private static void tooLong(int[][] cases) {
        for (int[] c : cases) {
            Kneadery x = new Kneadery();
            x.squared(c[2], c[3]);
            CHECK.throwing(7, "the point 1", Check.STATE, () -> x.point(0, c[0], c[1], 1, false));
            CHECK.due(6, "it is lost", Kneadery.LOST, () -> x.orbit(0, c[0], c[1], 0));
            CHECK.due(6, "it is lost at once", 0, () -> x.orbit(0, -c[0], c[1], 3));
        }
    }

    private static void squaredByHand() {
        Kneadery x = new Kneadery();
        x.squared(-29, 16);
        x.squared(-3, 4);
        CHECK.due(7, "-1/4 to -7/4", -7, () -> x.point(0, -1, 4, 1, false));
        CHECK.due(7, "-7/4 to 5/4", 5, () -> x.point(0, -1, 4, 2, false));
        CHECK.due(7, "and back", -1, () -> x.point(0, -1, 4, 999, false));
        CHECK.due(7, "1/4 comes to that", 5, () -> x.point(0, 1, 4, 1000 - 998, false));
        CHECK.due(6, "1/4, points", 4, () -> x.orbit(0, 1, 4, 1));
        CHECK.due(6, "1/4, period", 3, () -> x.orbit(0, 1, 4, 2));
        CHECK.due(6, "3/2 stays by -3/4", 1, () -> x.orbit(1, 3, 2, 1));
        CHECK.due(6, "-3/2 comes to it", 2, () -> x.orbit(1, -3, 2, 1));
        CHECK.due(6, "1/2 goes to -1/2", 2, () -> x.orbit(1, 1, 2, 1));
        CHECK.due(6, "-1/2 stays", 1, () -> x.orbit(1, -1, 2, 2));
    }

    /** Tents have cycles of every length: some just reach the point 100, some end there. */
    private static void tentOrbits() {
        int[][] nodes = {{0, 1, 0, 1}, {1, 2, 1, 1}, {1, 1, 0, 1}};
        for (int q = 3; q < 1000; q += 2) {
            Kneadery x = new Kneadery();
            MapOracle oracle = told(x, nodes);
            compareOrbit(x, 0, oracle, 1, q, q);
            compareOrbit(x, 0, oracle, 3, 4 * q, 99 + q % 5);
        }
    }

    private static void mixedStraight() {
        Numbers numbers = new Numbers(5);
        for (int i = 0; i < 600; i++) {
            int[][] nodes = mixedNodes(numbers, i % 3 == 0);
            Kneadery x = new Kneadery();
            MapOracle oracle = told(x, nodes);
            for (int k = 0; k < 25; k++) {
                int q = numbers.between(1, k % 2 == 0 ? 9999 : 12);
                int p = k < 20 ? numbers.between(Math.max(-9999, -3 * q), Math.min(9999, 3 * q))
                        : numbers.between(-9999, 9999);
                compareOrbit(x, 0, oracle, p, q, numbers.between(0, 1000));
            }
        }
    }

    /** Rising places; of a self map of -3 to 3, if it is tame. */
    private static int[][] mixedNodes(Numbers numbers, boolean isTame) {
        int size = numbers.between(2, 8);
        int[][] nodes = new int[size][];
        int last = 0;
        for (int i = 0; i < size; i++) {
            int s = isTame ? numbers.between(1, 2) : numbers.between(1, 9);
            int most = isTame ? 3 * s : Math.min(99, 20 * s);
            if (isTame) {
                nodes[i] = new int[] {6 * i / (size - 1) - 3, 1, numbers.between(-most, most), s};
                if (i > 0 && nodes[i][0] <= last) {
                    return java.util.Arrays.copyOf(nodes, i);
                }
                last = nodes[i][0];
            } else {
                int q = numbers.between(1, 9);
                int p = (i * 14 - 56) * q / 10 + numbers.between(0, Math.max(0, q / 2));
                nodes[i] = new int[] {Math.max(-99, Math.min(99, p)), q, numbers.between(-most, most), s};
                if (i > 0 && nodes[i][0] * nodes[i - 1][1] <= nodes[i - 1][0] * q) {
                    return java.util.Arrays.copyOf(nodes, i);
                }
            }
        }
        return nodes;
    }

    private static void mixedSquared() {
        Numbers numbers = new Numbers(11);
        for (int i = 0; i < 600; i++) {
            int q = numbers.between(1, i % 2 == 0 ? 99 : 9);
            int p = i % 3 == 0 ? numbers.between(-2 * q, q) : numbers.between(-999, 999);
            Kneadery x = new Kneadery();
            x.squared(p, q);
            MapOracle oracle = new MapOracle(p, q);
            for (int k = 0; k < 20; k++) {
                int below = numbers.between(1, k % 2 == 0 ? 9999 : 9);
                int above = k % 3 == 0 ? numbers.between(-9999, 9999) : numbers.between(-below, below);
                compareOrbit(x, 0, oracle, above, below, numbers.between(0, 1000));
            }
        }
        // c is a quarter of n less n squared: whole halves stay halves, and some cycle.
        for (int c = -40; c <= 4; c++) {
            Kneadery x = new Kneadery();
            x.squared(c, 4);
            MapOracle oracle = new MapOracle(c, 4);
            for (int above = -9; above <= 9; above++) {
                compareOrbit(x, 0, oracle, above, 2, above + 10);
            }
        }
    }

    private static void compareOrbit(Kneadery x, int map, MapOracle oracle, int p, int q, int n) {
        oracle.run(p, q);
        String name = "of " + p + "/" + q;
        for (int what = 0; what <= 3; what++) {
            int asked = what;
            CHECK.due(6, "orbit " + name + " what " + what, oracle.told(what), () -> x.orbit(map, p, q, asked));
        }
        comparePoint(x, map, oracle, p, q, Math.max(0, Math.min(1000, n)));
        comparePoint(x, map, oracle, p, q, oracle.points.size() - 1);
        comparePoint(x, map, oracle, p, q, oracle.points.size());
    }

    private static void comparePoint(Kneadery x, int map, MapOracle oracle, int p, int q, int n) {
        MapOracle.Part part = oracle.point(n);
        String name = "point " + n + " of " + p + "/" + q;
        if (part == null) {
            CHECK.throwing(7, name, Check.STATE, () -> x.point(map, p, q, n, n % 2 == 0));
        } else {
            CHECK.due(7, name + " above", part.p.longValueExact(), () -> x.point(map, p, q, n, false));
            CHECK.due(7, name + " below", part.q.longValueExact(), () -> x.point(map, p, q, n, true));
        }
    }

    private static void askingChangesNothing() {
        Kneadery x = new Kneadery();
        x.straight();
        x.node(0, 0, 1, 0, 1);
        x.node(0, 1, 1, 1, 1);
        x.squared(0, 1);
        for (int i = 0; i < 20; i++) {
            CHECK.due(6, "the one", 1, () -> x.orbit(0, 1, 3, 2));
            CHECK.due(6, "the other", Kneadery.LOST, () -> x.orbit(1, 1, 3, 0));
            CHECK.due(7, "a point of the one", 3, () -> x.point(0, 1, 3, 40, true));
            CHECK.due(7, "a point of the other", 81, () -> x.point(1, 1, 3, 2, true));
        }
        CHECK.due(3, "a third node", 3, () -> x.node(0, 2, 1, 0, 1));
        CHECK.due(2, "a third map", 2, () -> x.straight());
    }
}
