/** The boundary cases of promises 1 to 7, one test for each sentence that names one. */
public final class MapBoundsTest {
    private static final Check CHECK = new Check();

    public static void main(String[] args) {
        newObjectHasNothing();
        newObjectAnswersWhatNeedsNothing();
        objectUpToItsLastCall();
        straightUpToTwelve();
        straightAmongOthers();
        nodeOfNoSuchMap();
        nodeOfNoStraightMap();
        nodeLeastAndGreatest();
        nodeJustOutside();
        nodeUpToEight();
        nodeBehindItsLast();
        nodeWhichException();
        squaredLeastAndGreatest();
        squaredJustOutside();
        squaredUpToTwelve();
        mapOfNoSuchPattern();
        mapOfUpToTwelve();
        mapOfLeastPattern();
        mapOfGreatestPattern();
        orbitOfNoSuchMap();
        orbitLeastAndGreatest();
        orbitJustOutside();
        orbitCycles();
        orbitLeaves();
        orbitLeavesWithoutNodes();
        orbitLeavesWithOneNode();
        orbitLost();
        orbitOpen();
        orbitAtHundred();
        pointOfNoSuchMap();
        pointLeastAndGreatest();
        pointJustOutside();
        pointShortest();
        pointOnAndOn();
        pointNoSuch();
        CHECK.end();
    }

    // ---- promise 1

    private static void newObjectHasNothing() {
        Kneadery x = new Kneadery();
        int[] none = {0, 1, 11, 12, 29, 30, -1};
        for (int i : none) {
            CHECK.throwing(1, "node(" + i + ")", Check.INDEX, () -> x.node(i, 0, 1, 0, 1));
            CHECK.throwing(1, "mapOf(" + i + ")", Check.INDEX, () -> x.mapOf(i));
            CHECK.throwing(1, "orbit(" + i + ")", Check.INDEX, () -> x.orbit(i, 0, 1, 0));
            CHECK.throwing(1, "point(" + i + ")", Check.INDEX, () -> x.point(i, 0, 1, 0, true));
            CHECK.throwing(1, "images(" + i + ")", Check.INDEX, () -> x.images(i));
            CHECK.throwing(1, "covers(" + i + ")", Check.INDEX, () -> Check.one(x.covers(i, 1, 1)));
            CHECK.throwing(1, "ways(" + i + ")", Check.INDEX, () -> x.ways(i, 1));
            CHECK.throwing(1, "loops(" + i + ")", Check.INDEX, () -> x.loops(i, 1));
            CHECK.throwing(1, "loopsAnew(" + i + ")", Check.INDEX, () -> x.loopsAnew(i, 1));
            CHECK.throwing(1, "letter(" + i + ")", Check.INDEX, () -> x.letter(i, 0));
            CHECK.throwing(1, "compare(" + i + ")", Check.INDEX, () -> x.compare(i, i));
            CHECK.throwing(1, "isGreatest(" + i + ")", Check.INDEX, () -> Check.one(x.isGreatest(i)));
            CHECK.throwing(1, "product(" + i + ")", Check.INDEX, () -> x.product(i, i));
            CHECK.throwing(1, "factor(" + i + ")", Check.INDEX, () -> x.factor(i));
            CHECK.throwing(1, "patternOf(" + i + ")", Check.INDEX, () -> x.patternOf(i));
        }
        CHECK.due(1, "the first map", 0, () -> x.squared(0, 1));
        CHECK.due(1, "the first pattern", 0, () -> x.pattern(21));
        CHECK.due(1, "the first word", 0, () -> x.word(0, 0));
    }

    private static void newObjectAnswersWhatNeedsNothing() {
        Kneadery x = new Kneadery();
        CHECK.due(1, "forces", 1, () -> Check.one(x.forces(3, 1)));
        CHECK.due(1, "count", 1, () -> x.count(0));
        CHECK.due(1, "countAnew", 1, () -> x.countAnew(0));
        CHECK.due(1, "angle", 1, () -> x.angle(0, 1, true));
        CHECK.due(1, "turn", 2, () -> x.turn(0, 1, 1));
        CHECK.due(1, "address", 1, () -> x.address(0, 1, 0));
        CHECK.due(1, "companion", 2, () -> x.companion(1, 3));
        CHECK.due(1, "remainder", 1, () -> x.remainder(2, 0, 0, true));
        CHECK.due(1, "onCycles", 2, () -> x.onCycles(2, 0));
    }

    /** Up to the call 512, the dearest ones among them. */
    private static void objectUpToItsLastCall() {
        Kneadery x = new Kneadery();
        x.pattern(87653214);
        x.mapOf(0);
        int first = x.loopsAnew(0, 6);
        for (int call = 4; call <= 512; call++) {
            int at = call;
            switch (call % 5) {
                case 0 -> CHECK.due(1, "call " + at, first, () -> x.loopsAnew(0, 6));
                case 1 -> CHECK.due(1, "call " + at, 8, () -> x.orbit(0, 1, 1, 2));
                case 2 -> CHECK.due(1, "call " + at, 64, () -> x.address(1, 2, 63));
                case 3 -> CHECK.due(1, "call " + at, 1018, () -> x.angle(1, 1019, true));
                default -> CHECK.due(1, "call " + at, 253, () -> x.companion(254, 255));
            }
        }
    }

    // ---- promise 2

    private static void straightUpToTwelve() {
        Kneadery x = new Kneadery();
        for (int i = 0; i < 12; i++) {
            CHECK.due(2, "straight " + i, i, () -> x.straight());
        }
        CHECK.throwing(2, "a thirteenth", Check.STATE, () -> x.straight());
        CHECK.throwing(2, "and again", Check.STATE, () -> x.straight());
        CHECK.due(2, "the last one has no nodes", Kneadery.LEAVES, () -> x.orbit(11, 0, 1, 0));
        CHECK.throwing(2, "there is no map 12", Check.INDEX, () -> x.orbit(12, 0, 1, 0));
    }

    private static void straightAmongOthers() {
        Kneadery x = new Kneadery();
        x.pattern(21);
        for (int i = 0; i < 11; i++) {
            int k = i;
            CHECK.due(2, "a map of another kind", k, () -> k % 2 == 0 ? x.squared(0, 1) : x.mapOf(0));
        }
        CHECK.due(2, "the twelfth map", 11, () -> x.straight());
        CHECK.throwing(2, "a thirteenth map", Check.STATE, () -> x.straight());
    }

    // ---- promise 3

    private static void nodeOfNoSuchMap() {
        Kneadery x = new Kneadery();
        x.straight();
        x.straight();
        CHECK.due(3, "the first map", 1, () -> x.node(0, 0, 1, 0, 1));
        CHECK.due(3, "the last map", 1, () -> x.node(1, 0, 1, 0, 1));
        for (int map : new int[] {-1, 2, 11, 12, 13, Check.LOWEST, Check.HIGHEST}) {
            CHECK.throwing(3, "node of map " + map, Check.INDEX, () -> x.node(map, 1, 1, 0, 1));
        }
    }

    private static void nodeOfNoStraightMap() {
        Kneadery x = new Kneadery();
        x.squared(0, 1);
        x.pattern(21);
        x.mapOf(0);
        CHECK.throwing(3, "node of a squared map", Check.INDEX, () -> x.node(0, 0, 1, 0, 1));
        CHECK.throwing(3, "it is no map for nodes, whatever they are", Check.INDEX, () -> x.node(0, 100, 0, 100, 0));
        CHECK.due(3, "the map of a pattern is a straight one", 3, () -> x.node(1, 3, 1, 0, 1));
    }

    private static void nodeLeastAndGreatest() {
        int[][] rows = {{-99, 1, 0, 1}, {99, 1, 0, 1}, {0, 1, 0, 1}, {0, 9, 0, 1}, {0, 1, -99, 1}, {0, 1, 99, 1},
            {0, 1, 0, 9}, {-99, 9, -99, 9}, {99, 9, 99, 9}, {-99, 1, 99, 9}, {99, 9, -99, 1}};
        for (int[] r : rows) {
            Kneadery x = new Kneadery();
            x.straight();
            String name = "node(0, " + r[0] + ", " + r[1] + ", " + r[2] + ", " + r[3] + ")";
            CHECK.due(3, name, 1, () -> x.node(0, r[0], r[1], r[2], r[3]));
            CHECK.due(3, name + " is told there", r[2] / r[3], () -> x.point(0, r[0], r[1], 1, false));
        }
    }

    private static void nodeJustOutside() {
        Kneadery x = new Kneadery();
        x.straight();
        int[][] rows = {{-100, 1, 0, 1}, {100, 1, 0, 1}, {0, 0, 0, 1}, {0, 10, 0, 1}, {0, -1, 0, 1}, {0, 1, -100, 1},
            {0, 1, 100, 1}, {0, 1, 0, 0}, {0, 1, 0, 10}, {0, 1, 0, -1}, {100, 2, 0, 1}, {0, 1, 100, 2},
            {Check.LOWEST, 1, 0, 1}, {Check.HIGHEST, 1, 0, 1}, {0, Check.LOWEST, 0, 1}, {0, Check.HIGHEST, 0, 1},
            {0, 1, Check.LOWEST, 1}, {0, 1, Check.HIGHEST, 1}, {0, 1, 0, Check.LOWEST}, {0, 1, 0, Check.HIGHEST}};
        for (int[] r : rows) {
            String name = "node(0, " + r[0] + ", " + r[1] + ", " + r[2] + ", " + r[3] + ")";
            CHECK.throwing(3, name, Check.ARGUMENT, () -> x.node(0, r[0], r[1], r[2], r[3]));
        }
        CHECK.due(3, "none of them is a node", 1, () -> x.node(0, -99, 1, 0, 1));
    }

    private static void nodeUpToEight() {
        Kneadery x = new Kneadery();
        x.straight();
        x.straight();
        for (int i = 1; i <= 8; i++) {
            int k = i;
            CHECK.due(3, "node " + k, k, () -> x.node(0, k, 9, k, 1));
        }
        CHECK.throwing(3, "a ninth one behind", Check.STATE, () -> x.node(0, 1, 1, 0, 1));
        CHECK.throwing(3, "a ninth one not behind", Check.STATE, () -> x.node(0, 0, 1, 0, 1));
        CHECK.throwing(3, "not told where the ninth would be", Check.STATE, () -> x.point(0, 1, 1, 1, true));
        CHECK.due(3, "told at the eighth", 8, () -> x.point(0, 8, 9, 1, false));
        CHECK.due(3, "another map is not full", 1, () -> x.node(1, 1, 1, 0, 1));
    }

    private static void nodeBehindItsLast() {
        int[][] rows = {{0, 1, 0, 1, 0}, {0, 1, 0, 9, 0}, {1, 2, 4, 8, 0}, {1, 2, 3, 6, 0}, {7, 8, 8, 9, 1},
            {8, 9, 7, 8, 0}, {1, 9, 1, 8, 1}, {1, 8, 1, 9, 0}, {-1, 8, -1, 9, 1}, {-1, 9, -1, 8, 0}, {98, 1, 99, 1, 1},
            {99, 1, 98, 1, 0}, {99, 1, 99, 1, 0}, {-99, 1, -99, 1, 0}, {-99, 1, -98, 1, 1}, {-98, 1, -99, 1, 0},
            {-1, 9, 0, 1, 1}, {0, 1, 1, 9, 1}, {0, 1, -1, 9, 0}, {99, 9, 98, 9, 0}, {99, 9, 99, 8, 1},
            {99, 9, 11, 1, 0}};
        for (int[] r : rows) {
            Kneadery x = new Kneadery();
            x.straight();
            x.node(0, r[0], r[1], 5, 1);
            String name = "node at " + r[2] + "/" + r[3] + " behind " + r[0] + "/" + r[1];
            if (r[4] == 1) {
                CHECK.due(3, name, 2, () -> x.node(0, r[2], r[3], 7, 1));
                CHECK.due(3, name + " is told", 7, () -> x.point(0, r[2], r[3], 1, false));
            } else {
                CHECK.throwing(3, name, Check.STATE, () -> x.node(0, r[2], r[3], 7, 1));
                CHECK.due(3, name + ": the last one is as it was", 5, () -> x.point(0, r[0], r[1], 1, false));
            }
        }
    }

    private static void nodeWhichException() {
        Kneadery x = new Kneadery();
        x.squared(0, 1);
        x.straight();
        x.straight();
        for (int k = 1; k <= 8; k++) {
            x.node(1, k, 1, 0, 1);
        }
        x.node(2, 99, 1, 0, 1);
        int[][] wrong = {{100, 1, 0, 1}, {0, 0, 0, 1}, {0, 1, 100, 1}, {0, 1, 0, 0}, {100, 10, 100, 10}};
        for (int[] w : wrong) {
            CHECK.throwing(3, "no map and out of range", Check.INDEX, () -> x.node(3, w[0], w[1], w[2], w[3]));
            CHECK.throwing(3, "squared and out of range", Check.INDEX, () -> x.node(0, w[0], w[1], w[2], w[3]));
            CHECK.throwing(3, "full and out of range", Check.ARGUMENT, () -> x.node(1, w[0], w[1], w[2], w[3]));
            CHECK.throwing(3, "not behind and out of range", Check.ARGUMENT, () -> x.node(2, w[0], w[1], w[2], w[3]));
        }
        CHECK.throwing(3, "full and not behind", Check.STATE, () -> x.node(1, 0, 1, 0, 1));
    }

    // ---- promise 4

    private static void squaredLeastAndGreatest() {
        int[][] rows = {{-999, 1}, {999, 1}, {0, 1}, {-999, 99}, {999, 99}, {0, 99}, {1, 99}, {-1, 99}};
        Kneadery x = new Kneadery();
        for (int i = 0; i < rows.length; i++) {
            int k = i;
            MapOracle oracle = new MapOracle(rows[k][0], rows[k][1]).run(0, 1);
            String name = "squared(" + rows[k][0] + ", " + rows[k][1] + ")";
            CHECK.due(4, name, k, () -> x.squared(rows[k][0], rows[k][1]));
            CHECK.due(4, name + " takes 0 to c", oracle.told(0), () -> x.orbit(k, 0, 1, 0));
        }
        CHECK.due(4, "-999", -999, () -> x.point(0, 0, 1, 1, false));
        CHECK.due(4, "999", 999, () -> x.point(1, 0, 1, 1, false));
        CHECK.due(4, "-999/99, above", -111, () -> x.point(3, 0, 1, 1, false));
        CHECK.due(4, "-999/99, below", 11, () -> x.point(3, 0, 1, 1, true));
        CHECK.due(4, "0/99 is 0 by 1", 1, () -> x.point(5, 0, 1, 1, true));
        CHECK.due(4, "1/99, below", 99, () -> x.point(6, 0, 1, 1, true));
        CHECK.due(4, "-1/99, above", -1, () -> x.point(7, 0, 1, 1, false));
    }

    private static void squaredJustOutside() {
        Kneadery x = new Kneadery();
        int[][] rows = {{-1000, 1}, {1000, 1}, {0, 0}, {0, 100}, {0, -1}, {-1000, 100}, {1000, 0}, {Check.LOWEST, 1},
            {Check.HIGHEST, 1}, {0, Check.LOWEST}, {0, Check.HIGHEST}, {1000, 10}};
        for (int[] r : rows) {
            CHECK.throwing(4, "squared(" + r[0] + ", " + r[1] + ")", Check.ARGUMENT, () -> x.squared(r[0], r[1]));
        }
        CHECK.due(4, "none of them is a map", 0, () -> x.squared(0, 1));
    }

    private static void squaredUpToTwelve() {
        Kneadery x = new Kneadery();
        for (int i = 0; i < 12; i++) {
            int k = i;
            CHECK.due(4, "squared " + k, k, () -> x.squared(k, 1));
        }
        CHECK.throwing(4, "a thirteenth", Check.STATE, () -> x.squared(0, 1));
        CHECK.throwing(4, "a thirteenth out of range", Check.ARGUMENT, () -> x.squared(1000, 1));
        CHECK.throwing(4, "a thirteenth by 0", Check.ARGUMENT, () -> x.squared(0, 0));
        CHECK.due(4, "the last one is as it was", 11, () -> x.point(11, 0, 1, 1, false));
    }

    // ---- promise 5

    private static void mapOfNoSuchPattern() {
        Kneadery x = new Kneadery();
        x.pattern(21);
        x.pattern(231);
        for (int pattern : new int[] {-1, 2, 11, 12, Check.LOWEST, Check.HIGHEST}) {
            CHECK.throwing(5, "mapOf(" + pattern + ")", Check.INDEX, () -> x.mapOf(pattern));
        }
        CHECK.due(5, "the first pattern", 0, () -> x.mapOf(0));
        CHECK.due(5, "the last pattern", 1, () -> x.mapOf(1));
    }

    private static void mapOfUpToTwelve() {
        Kneadery x = new Kneadery();
        for (int i = 0; i < 12; i++) {
            x.pattern(21);
        }
        for (int i = 0; i < 12; i++) {
            int k = i;
            CHECK.due(5, "mapOf " + k, k, () -> x.mapOf(k));
        }
        CHECK.throwing(5, "a thirteenth", Check.STATE, () -> x.mapOf(0));
        CHECK.throwing(5, "a thirteenth of no pattern", Check.INDEX, () -> x.mapOf(12));
        CHECK.throwing(5, "a thirteenth of the pattern -1", Check.INDEX, () -> x.mapOf(-1));
    }

    private static void mapOfLeastPattern() {
        Kneadery x = new Kneadery();
        x.pattern(21);
        x.mapOf(0);
        CHECK.due(5, "the first point", 2, () -> x.point(0, 1, 1, 1, false));
        CHECK.due(5, "the last point", 1, () -> x.point(0, 2, 1, 1, false));
        CHECK.due(5, "just below the first", 0, () -> x.orbit(0, 9998, 9999, 3));
        CHECK.due(5, "just above the last", 0, () -> x.orbit(0, 9999, 4999, 3));
        CHECK.due(5, "just above the first", Kneadery.CYCLES, () -> x.orbit(0, 5000, 4999, 0));
        CHECK.due(5, "just below the last", Kneadery.CYCLES, () -> x.orbit(0, 9999, 5000, 0));
    }

    /** With eight points the map is full of nodes. */
    private static void mapOfGreatestPattern() {
        int[] image = {8, 7, 6, 5, 3, 2, 1, 4};
        Kneadery x = new Kneadery();
        x.pattern(87653214);
        x.mapOf(0);
        for (int k = 1; k <= 8; k++) {
            int at = k;
            CHECK.due(5, "the image of " + k, image[k - 1], () -> x.point(0, at, 1, 1, false));
            CHECK.due(5, "the period of " + k, 8, () -> x.orbit(0, at, 1, 2));
        }
        CHECK.throwing(5, "a ninth node", Check.STATE, () -> x.node(0, 9, 1, 1, 1));
        CHECK.due(5, "below 1", Kneadery.LEAVES, () -> x.orbit(0, 0, 1, 0));
        CHECK.due(5, "above 8", Kneadery.LEAVES, () -> x.orbit(0, 9, 1, 0));
        CHECK.due(5, "half way from 3 to 2, above", 5, () -> x.point(0, 11, 2, 1, false));
        CHECK.due(5, "half way from 3 to 2, below", 2, () -> x.point(0, 11, 2, 1, true));
        CHECK.due(5, "half way from 5 to 3", 4, () -> x.point(0, 9, 2, 1, false));
    }

    // ---- promise 6

    private static void orbitOfNoSuchMap() {
        Kneadery x = new Kneadery();
        x.squared(0, 1);
        x.straight();
        for (int map : new int[] {-1, 2, 11, 12, Check.LOWEST, Check.HIGHEST}) {
            CHECK.throwing(6, "orbit of map " + map, Check.INDEX, () -> x.orbit(map, 0, 1, 0));
            CHECK.throwing(6, "orbit of map " + map + ", p", Check.INDEX, () -> x.orbit(map, 10000, 1, 0));
            CHECK.throwing(6, "orbit of map " + map + ", q", Check.INDEX, () -> x.orbit(map, 0, 0, 0));
            CHECK.throwing(6, "orbit of map " + map + ", what", Check.INDEX, () -> x.orbit(map, 0, 1, 4));
        }
        CHECK.due(6, "the first map", Kneadery.CYCLES, () -> x.orbit(0, 0, 1, 0));
        CHECK.due(6, "the last map", Kneadery.LEAVES, () -> x.orbit(1, 0, 1, 0));
    }

    private static void orbitLeastAndGreatest() {
        int[][] starts = {{-9999, 1}, {9999, 1}, {0, 1}, {0, 9999}, {-9999, 9999}, {9999, 9999}, {9999, 9998},
            {-9998, 9999}, {1, 9999}, {-1, 9999}};
        Kneadery x = new Kneadery();
        x.squared(-1, 1);
        x.straight();
        x.node(1, -99, 1, 99, 1);
        x.node(1, 99, 1, -99, 1);
        MapOracle squared = new MapOracle(-1, 1);
        MapOracle straight = new MapOracle().node(-99, 1, 99, 1).node(99, 1, -99, 1);
        for (int[] s : starts) {
            squared.run(s[0], s[1]);
            straight.run(s[0], s[1]);
            for (int what = 0; what <= 3; what++) {
                int asked = what;
                String name = s[0] + "/" + s[1] + ", " + what;
                CHECK.due(6, "squared " + name, squared.told(what), () -> x.orbit(0, s[0], s[1], asked));
                CHECK.due(6, "straight " + name, straight.told(what), () -> x.orbit(1, s[0], s[1], asked));
            }
        }
    }

    private static void orbitJustOutside() {
        int[][] rows = {{-10000, 1, 0}, {10000, 1, 0}, {0, 0, 0}, {0, 10000, 0}, {0, -1, 0}, {0, 1, -1}, {0, 1, 4},
            {10000, 10000, 0}, {Check.LOWEST, 1, 0}, {Check.HIGHEST, 1, 0}, {0, Check.LOWEST, 0}, {0, Check.HIGHEST, 0},
            {0, 1, Check.LOWEST}, {0, 1, Check.HIGHEST}, {10000, 0, 4}};
        Kneadery x = new Kneadery();
        x.squared(0, 1);
        x.straight();
        for (int[] r : rows) {
            for (int map = 0; map < 2; map++) {
                int m = map;
                CHECK.throwing(6, "orbit(" + m + ", " + r[0] + ", " + r[1] + ", " + r[2] + ")", Check.ARGUMENT,
                        () -> x.orbit(m, r[0], r[1], r[2]));
            }
        }
    }

    private static void due(Kneadery x, String name, int map, int p, int q, int[] want) {
        for (int what = 0; what <= 3; what++) {
            int asked = what;
            CHECK.due(6, name + ", " + what, want[what], () -> x.orbit(map, p, q, asked));
        }
    }

    /** The earlier one is the point 0, or the one just ahead, or any between. */
    private static void orbitCycles() {
        Kneadery x = new Kneadery();
        x.squared(0, 1);
        x.squared(-1, 1);
        x.squared(-29, 16);
        due(x, "0 stays", 0, 0, 1, new int[] {Kneadery.CYCLES, 1, 1, Kneadery.NONE});
        due(x, "-1 comes to 1, which stays", 0, -1, 1, new int[] {Kneadery.CYCLES, 2, 1, Kneadery.NONE});
        due(x, "0 and -1", 1, 0, 1, new int[] {Kneadery.CYCLES, 2, 2, Kneadery.NONE});
        due(x, "1 comes to 0 and -1", 1, 1, 1, new int[] {Kneadery.CYCLES, 3, 2, Kneadery.NONE});
        due(x, "a cycle of three", 2, -1, 4, new int[] {Kneadery.CYCLES, 3, 3, Kneadery.NONE});
        due(x, "the same in a longer form", 2, -25, 100, new int[] {Kneadery.CYCLES, 3, 3, Kneadery.NONE});
    }

    /** At the first node and the last one the map is told, just below and just above them it is not. */
    private static void orbitLeaves() {
        Kneadery x = new Kneadery();
        x.straight();
        x.node(0, -1, 3, -1, 3);
        x.node(0, 1, 3, 1, 3);
        due(x, "at the first node", 0, -1, 3, new int[] {Kneadery.CYCLES, 1, 1, Kneadery.NONE});
        due(x, "at the last node", 0, 1, 3, new int[] {Kneadery.CYCLES, 1, 1, Kneadery.NONE});
        due(x, "just below the first node", 0, -3333, 9998, new int[] {Kneadery.LEAVES, 1, 0, 0});
        due(x, "just above the last node", 0, 3333, 9998, new int[] {Kneadery.LEAVES, 1, 0, 0});
        due(x, "just above the first node", 0, -3332, 9997, new int[] {Kneadery.CYCLES, 1, 1, Kneadery.NONE});
        due(x, "just below the last node", 0, 3332, 9997, new int[] {Kneadery.CYCLES, 1, 1, Kneadery.NONE});
        x.straight();
        x.node(1, 0, 1, 1, 1);
        x.node(1, 1, 1, 2, 1);
        due(x, "behind 1 and its image 2", 1, 0, 1, new int[] {Kneadery.LEAVES, 3, 0, 2});
        due(x, "behind 3/2", 1, 1, 2, new int[] {Kneadery.LEAVES, 2, 0, 1});
        CHECK.due(7, "the point by which it leaves", 2, () -> x.point(1, 0, 1, 2, false));
        CHECK.throwing(7, "there is none behind", Check.STATE, () -> x.point(1, 0, 1, 3, false));
    }

    private static void orbitLeavesWithoutNodes() {
        Kneadery x = new Kneadery();
        x.straight();
        int[][] starts = {{0, 1}, {-9999, 1}, {9999, 1}, {1, 9999}, {4, 6}};
        for (int[] s : starts) {
            due(x, "without nodes", 0, s[0], s[1], new int[] {Kneadery.LEAVES, 1, 0, 0});
            CHECK.throwing(7, "no point 1", Check.STATE, () -> x.point(0, s[0], s[1], 1, false));
        }
        CHECK.due(7, "the point 0 alone", 2, () -> x.point(0, 4, 6, 0, false));
    }

    private static void orbitLeavesWithOneNode() {
        Kneadery x = new Kneadery();
        x.straight();
        x.node(0, 1, 2, 5, 7);
        x.straight();
        x.node(1, 1, 2, 2, 4);
        due(x, "at the one node", 0, 1, 2, new int[] {Kneadery.LEAVES, 2, 0, 1});
        due(x, "at the one node, in a longer form", 0, 50, 100, new int[] {Kneadery.LEAVES, 2, 0, 1});
        due(x, "below it", 0, 4999, 9999, new int[] {Kneadery.LEAVES, 1, 0, 0});
        due(x, "above it", 0, 5000, 9999, new int[] {Kneadery.LEAVES, 1, 0, 0});
        due(x, "it stays", 1, 1, 2, new int[] {Kneadery.CYCLES, 1, 1, Kneadery.NONE});
    }

    /** Up to 1000000000 is not too long; some of the rows just reach that, others are just behind it. */
    private static void orbitLost() {
        lostBySquare(8770, 21, 300, 13, 1000000000, true);
        lostBySquare(663, 1069, -907, 83, -1000000000, true);
        lostBySquare(5000, 1, 1, 40, 1000000001, false);
        lostBySquare(405, 1081, -866, 73, -1000000001, false);
        // Here it is the number below the line: 999995456, 1000000408.
        lostBySquare(1, 3352, 1, 89, 0, true);
        lostBySquare(1, 3371, 1, 88, 0, false);
        lostByLine(new int[] {-16, 6, 88, 1, 93, 5, -76, 9}, -664, 4549, true);
        lostByLine(new int[] {-46, 7, 61, 1, 75, 4, 19, 7}, 506, 8810, false);
        lostByLine(new int[] {-47, 5, -68, 9, 58, 7, -97, 5}, 3365, 7613, true);
        lostByLine(new int[] {-68, 5, 61, 7, 27, 7, -69, 5}, 1557, 5071, false);
        lostByLine(new int[] {-85, 8, 61, 9, 82, 9, -45, 8}, 1088, 9661, true);

        Kneadery x = new Kneadery();
        x.straight();
        x.node(0, -10, 1, -1, 1);
        x.node(0, 10, 1, 1, 1);
        due(x, "by 1000000000", 0, 1, 1, new int[] {Kneadery.LOST, 10, 0, 9});
        due(x, "by 1000000000, below 0", 0, -1, 1, new int[] {Kneadery.LOST, 10, 0, 9});
        CHECK.due(7, "the last point", 1000000000, () -> x.point(0, 1, 1, 9, true));
        CHECK.throwing(7, "none behind it", Check.STATE, () -> x.point(0, 1, 1, 10, true));
    }

    private static void lostBySquare(int p, int q, int c, int by, int want, boolean isPoint) {
        Kneadery x = new Kneadery();
        x.squared(c, by);
        comparePoint(x, new MapOracle(c, by).run(p, q), p, q, isPoint);
        if (isPoint && want != 0) {
            CHECK.due(7, "the point 1", want, () -> x.point(0, p, q, 1, false));
        }
    }

    private static void lostByLine(int[] n, int p, int q, boolean isPoint) {
        Kneadery x = new Kneadery();
        x.straight();
        x.node(0, n[0], n[1], n[2], n[3]);
        x.node(0, n[4], n[5], n[6], n[7]);
        MapOracle oracle = new MapOracle().node(n[0], n[1], n[2], n[3]).node(n[4], n[5], n[6], n[7]);
        comparePoint(x, oracle.run(p, q), p, q, isPoint);
    }

    private static void comparePoint(Kneadery x, MapOracle oracle, int p, int q, boolean isPoint) {
        String name = "point 1 of " + p + "/" + q;
        CHECK.due(6, name + ", the test's own", Check.one(isPoint), () -> Check.one(oracle.point(1) != null));
        for (int what = 0; what <= 3; what++) {
            int asked = what;
            CHECK.due(6, name + ", " + what, oracle.told(what), () -> x.orbit(0, p, q, asked));
        }
        if (isPoint) {
            CHECK.due(7, name, oracle.point(1).p.longValueExact(), () -> x.point(0, p, q, 1, false));
            CHECK.due(7, name + ", below", oracle.point(1).q.longValueExact(), () -> x.point(0, p, q, 1, true));
        } else {
            CHECK.throwing(7, name, Check.STATE, () -> x.point(0, p, q, 1, false));
            CHECK.throwing(7, name + ", below", Check.STATE, () -> x.point(0, p, q, 1, true));
            CHECK.due(6, "it is lost", Kneadery.LOST, () -> x.orbit(0, p, q, 0));
        }
    }

    /** From 0 on, up by 1, and from 99 back to 0: a cycle of a hundred points. */
    private static void orbitOpen() {
        Kneadery x = new Kneadery();
        x.straight();
        x.node(0, -99, 1, -98, 1);
        x.node(0, 98, 1, 99, 1);
        x.node(0, 99, 1, 0, 1);
        due(x, "the point 100 is the point 0", 0, 0, 1, new int[] {Kneadery.CYCLES, 100, 100, Kneadery.NONE});
        due(x, "so from each of them", 0, 42, 1, new int[] {Kneadery.CYCLES, 100, 100, Kneadery.NONE});
        due(x, "one ahead: only the point 101 is one", 0, -1, 1, new int[] {Kneadery.OPEN, 101, 0, Kneadery.NONE});
        due(x, "far ahead", 0, -99, 1, new int[] {Kneadery.OPEN, 101, 0, Kneadery.NONE});
        CHECK.due(7, "of the cycle on and on", 0, () -> x.point(0, 0, 1, 1000, false));
        CHECK.due(7, "of the cycle on and on", 99, () -> x.point(0, 0, 1, 999, false));
        CHECK.due(7, "of the open one", 99, () -> x.point(0, -1, 1, 100, false));
        CHECK.throwing(7, "no point 101 of the open one", Check.STATE, () -> x.point(0, -1, 1, 101, false));
        CHECK.throwing(7, "no point 1000 of the open one", Check.STATE, () -> x.point(0, -1, 1, 1000, false));
        x.straight();
        x.node(1, -99, 1, -98, 1);
        x.node(1, 98, 1, 99, 1);
        x.node(1, 99, 1, 1, 1);
        due(x, "the point 100 is the point 1", 1, 0, 1, new int[] {Kneadery.CYCLES, 100, 99, Kneadery.NONE});
        due(x, "a cycle of 99", 1, 1, 1, new int[] {Kneadery.CYCLES, 99, 99, Kneadery.NONE});
        CHECK.due(7, "the point 100", 1, () -> x.point(1, 0, 1, 100, false));
    }

    /** Whatever the map makes of the point 100: it is not told there, or the next one would be too long. */
    private static void orbitAtHundred() {
        Kneadery x = new Kneadery();
        x.straight();
        x.node(0, -99, 1, -98, 1);
        x.node(0, 98, 1, 99, 1);
        due(x, "not told at the point 99", 0, 0, 1, new int[] {Kneadery.LEAVES, 100, 0, 99});
        due(x, "not told at the point 100", 0, -1, 1, new int[] {Kneadery.OPEN, 101, 0, Kneadery.NONE});
        x.straight();
        x.node(1, -99, 1, -98, 1);
        x.node(1, 0, 1, 1, 1);
        x.node(1, 1, 1, 2, 1);
        x.node(1, 97, 9, 5, 1);
        MapOracle oracle = new MapOracle().node(-99, 1, -98, 1).node(0, 1, 1, 1).node(1, 1, 2, 1).node(97, 9, 5, 1);
        boolean isLostLate = false;
        boolean isOpen = false;
        for (int k = -99; k < -60; k++) {
            int p = 100 * k + 7;
            oracle.run(p, 100);
            isLostLate |= oracle.end == Kneadery.LOST && oracle.points.size() > 95;
            isOpen |= oracle.end == Kneadery.OPEN;
            int[] want = {oracle.told(0), oracle.told(1), oracle.told(2), oracle.told(3)};
            due(x, "from " + p + "/100", 1, p, 100, want);
        }
        boolean isBoth = isLostLate && isOpen;
        CHECK.due(6, "the test's own rows are lost late, and open", 1, () -> Check.one(isBoth));
    }

    // ---- promise 7

    private static void pointOfNoSuchMap() {
        Kneadery x = new Kneadery();
        x.squared(0, 1);
        x.straight();
        for (int map : new int[] {-1, 2, 11, 12, Check.LOWEST, Check.HIGHEST}) {
            CHECK.throwing(7, "point of map " + map, Check.INDEX, () -> x.point(map, 0, 1, 0, true));
            CHECK.throwing(7, "point of map " + map + ", p", Check.INDEX, () -> x.point(map, 10000, 1, 0, true));
            CHECK.throwing(7, "point of map " + map + ", q", Check.INDEX, () -> x.point(map, 0, 0, 0, true));
            CHECK.throwing(7, "point of map " + map + ", n", Check.INDEX, () -> x.point(map, 0, 1, 1001, true));
        }
        CHECK.due(7, "the first map", 0, () -> x.point(0, 0, 1, 0, false));
        CHECK.due(7, "the last map", 0, () -> x.point(1, 0, 1, 0, false));
    }

    private static void pointLeastAndGreatest() {
        Kneadery x = new Kneadery();
        x.squared(0, 1);
        int[][] rows = {{-9999, 1, 0, -9999, 1}, {9999, 1, 0, 9999, 1}, {0, 1, 0, 0, 1}, {0, 9999, 0, 0, 1},
            {1, 9999, 0, 1, 9999}, {-9999, 9999, 0, -1, 1}, {9999, 9999, 1000, 1, 1}, {-9999, 9999, 1000, 1, 1},
            {9999, 1, 1, 99980001, 1}, {-9999, 1, 1, 99980001, 1}, {1, 9999, 1, 1, 99980001}, {0, 1, 1000, 0, 1}};
        for (int[] r : rows) {
            String name = "point(0, " + r[0] + ", " + r[1] + ", " + r[2] + ")";
            CHECK.due(7, name + " above", r[3], () -> x.point(0, r[0], r[1], r[2], false));
            CHECK.due(7, name + " below", r[4], () -> x.point(0, r[0], r[1], r[2], true));
        }
    }

    private static void pointJustOutside() {
        int[][] rows = {{-10000, 1, 0}, {10000, 1, 0}, {0, 0, 0}, {0, 10000, 0}, {0, -1, 0}, {0, 1, -1}, {0, 1, 1001},
            {10000, 10000, 0}, {Check.LOWEST, 1, 0}, {Check.HIGHEST, 1, 0}, {0, Check.LOWEST, 0}, {0, Check.HIGHEST, 0},
            {0, 1, Check.LOWEST}, {0, 1, Check.HIGHEST}};
        Kneadery x = new Kneadery();
        x.squared(0, 1);
        x.straight();
        for (int[] r : rows) {
            String name = "point(.., " + r[0] + ", " + r[1] + ", " + r[2] + ")";
            CHECK.throwing(7, name, Check.ARGUMENT, () -> x.point(0, r[0], r[1], r[2], true));
            CHECK.throwing(7, name + " of an orbit that ends at once", Check.ARGUMENT,
                    () -> x.point(1, r[0], r[1], r[2], false));
        }
    }

    /** Without a common divisor, and with the number below the line above 0. */
    private static void pointShortest() {
        Kneadery x = new Kneadery();
        x.straight();
        x.node(0, -2, 1, -6, 9);
        x.node(0, 2, 1, 6, 9);
        int[][] rows = {{6, 4, 0, 3, 2}, {-6, 4, 0, -3, 2}, {0, 7, 0, 0, 1}, {9998, 9999, 0, 9998, 9999},
            {5000, 2500, 0, 2, 1}, {2, 1, 1, 2, 3}, {-2, 1, 1, -2, 3}, {0, 7, 1, 0, 1}, {-3, 2, 1, -1, 2},
            {3, 2, 1, 1, 2}, {1, 1, 1, 1, 3}};
        for (int[] r : rows) {
            String name = "point " + r[2] + " of " + r[0] + "/" + r[1];
            CHECK.due(7, name + " above", r[3], () -> x.point(0, r[0], r[1], r[2], false));
            CHECK.due(7, name + " below", r[4], () -> x.point(0, r[0], r[1], r[2], true));
        }
    }

    /** Two points ahead of a cycle of three, up to the point 1000. */
    private static void pointOnAndOn() {
        Kneadery x = new Kneadery();
        x.straight();
        int[][] nodes = {{0, 4}, {1, 2}, {2, 3}, {3, 1}, {4, 1}};
        for (int[] n : nodes) {
            x.node(0, n[0], 1, n[1], 1);
        }
        int[] cycle = {1, 2, 3};
        CHECK.due(7, "point 0", 0, () -> x.point(0, 0, 1, 0, false));
        CHECK.due(7, "point 1", 4, () -> x.point(0, 0, 1, 1, false));
        for (int n : new int[] {2, 3, 4, 5, 6, 7, 99, 100, 101, 102, 997, 998, 999, 1000}) {
            CHECK.due(7, "point " + n, cycle[(n - 2) % 3], () -> x.point(0, 0, 1, n, false));
        }
        CHECK.throwing(7, "point 1001", Check.ARGUMENT, () -> x.point(0, 0, 1, 1001, false));
        CHECK.throwing(7, "point -1", Check.ARGUMENT, () -> x.point(0, 0, 1, -1, false));
    }

    private static void pointNoSuch() {
        Kneadery x = new Kneadery();
        x.straight();
        x.node(0, 0, 1, 1, 1);
        x.squared(0, 1);
        CHECK.due(7, "the last point of one that leaves", 1, () -> x.point(0, 0, 1, 1, false));
        for (int n : new int[] {2, 3, 100, 101, 1000}) {
            CHECK.throwing(7, "of one that leaves, " + n, Check.STATE, () -> x.point(0, 0, 1, n, false));
            CHECK.throwing(7, "of one that leaves, below, " + n, Check.STATE, () -> x.point(0, 0, 1, n, true));
        }
        CHECK.due(7, "the last point of one that is lost", 390625, () -> x.point(1, 5, 1, 3, false));
        for (int n : new int[] {4, 5, 100, 101, 1000}) {
            CHECK.throwing(7, "of one that is lost, " + n, Check.STATE, () -> x.point(1, 5, 1, n, false));
        }
        CHECK.throwing(7, "out of range goes ahead of none there", Check.ARGUMENT, () -> x.point(0, 0, 1, 1001, false));
    }
}
