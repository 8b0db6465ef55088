import java.util.List;

/** Promises 24 to 27: angles. */
public final class AnglesTest {
    private static final Check CHECK = new Check();
    private static final int[][] PARTNERS = AngleOracle.PARTNERS;

    public static void main(String[] args) {
        wrong();
        allAngles();
        turnsByHand();
        turnsFar();
        addressesByHand();
        addresses();
        companionsByHand();
        CHECK.due(27, "the test's own pairs", 235, () -> AngleOracle.pairs());
        companions();
        companionFirst();
        companionOfNone();
        CHECK.end();
    }

    private static void wrong() {
        Kneadery x = new Kneadery();
        int[][] wrong = {{0, 0}, {1, 1}, {-1, 7}, {7, 7}, {8, 7}, {0, -1}, {0, 1024}, {1023, 1023}, {-2, -1},
            {0, Check.LOWEST}, {0, Check.HIGHEST}, {Check.LOWEST, 5}, {Check.HIGHEST, 5}, {Check.LOWEST, Check.LOWEST},
            {5, Check.HIGHEST}};
        for (int[] w : wrong) {
            String name = "(" + w[0] + ", " + w[1] + ")";
            CHECK.throwing(24, "angle " + name, Check.ARGUMENT, () -> x.angle(w[0], w[1], true));
            CHECK.throwing(24, "angle " + name, Check.ARGUMENT, () -> x.angle(w[0], w[1], false));
            CHECK.throwing(25, "turn " + name, Check.ARGUMENT, () -> x.turn(w[0], w[1], 1));
            CHECK.throwing(26, "address " + name, Check.ARGUMENT, () -> x.address(w[0], w[1], 0));
            CHECK.throwing(26, "address far " + name, Check.ARGUMENT, () -> x.address(w[0], w[1], 1000));
            CHECK.throwing(26, "address at -1 " + name, Check.INDEX, () -> x.address(w[0], w[1], -1));
            CHECK.throwing(27, "companion " + name, Check.ARGUMENT, () -> x.companion(w[0], w[1]));
        }
        int[] steps = {0, -1, 1001, Check.LOWEST, Check.HIGHEST};
        for (int k : steps) {
            CHECK.throwing(25, "turn(1, 7, " + k + ")", Check.ARGUMENT, () -> x.turn(1, 7, k));
        }
        CHECK.throwing(26, "address(1, 7, lowest)", Check.INDEX, () -> x.address(1, 7, Check.LOWEST));
        CHECK.due(26, "address(1, 7, highest)", Kneadery.NONE, () -> x.address(1, 7, Check.HIGHEST));
        CHECK.due(24, "angle(1022, 1023)", 10, () -> x.angle(1022, 1023, true));
        CHECK.due(25, "turn(1, 7, 1000)", 1, () -> x.turn(1, 7, 1000));
    }

    private static void allAngles() {
        for (int q = 1; q <= 1023; q += q < 70 ? 1 : 37) {
            Kneadery x = null;
            int by = q < 70 ? 1 : 7;
            for (int p = 0; p < q; p += by) {
                if (p % 200 == 0 || x == null || by > 1) {
                    x = new Kneadery();
                }
                compareAngle(x, p, q);
            }
        }
        for (int q = 1000; q <= 1023; q++) {
            compareAngle(new Kneadery(), q / 3, q);
            compareAngle(new Kneadery(), q - 1, q);
        }
    }

    private static void compareAngle(Kneadery x, int p, int q) {
        int ahead = AngleOracle.ahead(p, q);
        int period = AngleOracle.period(p, q);
        CHECK.due(24, "angle(" + p + ", " + q + ", false)", ahead, () -> x.angle(p, q, false));
        CHECK.due(24, "angle(" + p + ", " + q + ", true)", period, () -> x.angle(p, q, true));
    }

    private static void turnsByHand() {
        Kneadery x = new Kneadery();
        int[][] rows = {{0, 1, 1, 2}, {0, 1, 1000, 2}, {0, 2, 1, 2}, {1, 2, 1, 1}, {1, 2, 2, 0}, {1, 7, 1, 1},
            {1, 7, 3, 2}, {1, 7, 6, 2}, {3, 7, 1, 1}, {3, 7, 2, 0}, {3, 7, 3, 2}, {1, 6, 1, 1}, {1, 6, 2, 1},
            {1, 6, 3, 0}, {1, 6, 4, 1}, {1, 6, 1000, 1}, {1, 6, 999, 0}, {1, 3, 1, 1}, {1, 3, 2, 2}, {2, 3, 1, 1},
            {2, 3, 2, 2}, {1022, 1023, 1, 1}, {1022, 1023, 10, 2}, {1022, 1023, 1000, 2}};
        for (int[] r : rows) {
            CHECK.due(25, "turn(" + r[0] + ", " + r[1] + ", " + r[2] + ")", r[3], () -> x.turn(r[0], r[1], r[2]));
        }
    }

    private static void turnsFar() {
        Numbers numbers = new Numbers(17);
        Kneadery x = null;
        for (int i = 0; i < 6000; i++) {
            if (i % 500 == 0) {
                x = new Kneadery();
            }
            int q = i % 3 == 0 ? numbers.between(1, 40) : numbers.between(1, 1023);
            int p = numbers.between(0, q - 1);
            int k = i % 2 == 0 ? numbers.between(1, 20) : numbers.between(1, 1000);
            Kneadery y = x;
            int want = AngleOracle.turn(p, q, k);
            CHECK.due(25, "turn(" + p + ", " + q + ", " + k + ")", want, () -> y.turn(p, q, k));
        }
    }

    private static void addressesByHand() {
        Kneadery x = new Kneadery();
        int[][] rows = {{0, 1, 1}, {1, 3, 1, 2}, {1, 7, 1, 3}, {3, 7, 1, 2, 3}, {1, 15, 1, 4}, {2, 5, 1, 2, 4},
            {7, 15, 1, 2, 3, 4}};
        for (int[] r : rows) {
            for (int i = 2; i <= r.length + 2; i++) {
                int place = i - 2;
                int want = i < r.length ? r[i] : Kneadery.NONE;
                CHECK.due(26, "address(" + r[0] + ", " + r[1] + ", " + place + ")", want,
                        () -> x.address(r[0], r[1], place));
            }
        }
        CHECK.due(26, "1/6 at 1", 3, () -> x.address(1, 6, 1));
        CHECK.due(26, "1/6 at 2", 5, () -> x.address(1, 6, 2));
    }

    private static void addresses() {
        for (int q = 1; q <= 1023; q += q < 34 ? 1 : q < 900 ? 29 : 3) {
            for (int p = 0; p < q; p += q < 34 ? 1 : q / 9) {
                compareAddress(p, q);
            }
        }
    }

    private static void compareAddress(int p, int q) {
        Kneadery x = new Kneadery();
        List<Integer> row = AngleOracle.address(p, q);
        for (int i = 0; i <= row.size() + 1; i++) {
            int place = i;
            CHECK.due(26, "address(" + p + ", " + q + ", " + place + ")",
                    place < row.size() ? row.get(place) : Kneadery.NONE, () -> x.address(p, q, place));
        }
        CHECK.due(26, "address far behind", Kneadery.NONE, () -> x.address(p, q, 64 + p));
    }

    private static void companionsByHand() {
        int[][][] pairs = {{{1, 2}}, {{1, 2}, {3, 4}, {5, 6}},
            {{1, 2}, {3, 4}, {6, 9}, {7, 8}, {11, 12}, {13, 14}},
            {{1, 2}, {3, 4}, {5, 6}, {7, 8}, {9, 10}, {11, 12}, {13, 18}, {14, 17}, {15, 16}, {19, 20}, {21, 22},
                {23, 24}, {25, 26}, {27, 28}, {29, 30}}};
        for (int i = 0; i < pairs.length; i++) {
            int q = (1 << i + 2) - 1;
            Kneadery x = new Kneadery();
            for (int[] pair : pairs[i]) {
                CHECK.due(27, "companion(" + pair[0] + ", " + q + ")", pair[1], () -> x.companion(pair[0], q));
                CHECK.due(27, "companion(" + pair[1] + ", " + q + ")", pair[0], () -> x.companion(pair[1], q));
            }
        }
    }

    /** Every fraction, in its shortest form and in longer ones. */
    private static void companions() {
        Kneadery x = null;
        int calls = 0;
        for (int q = 1; q <= 1023; q++) {
            for (int p = 0; p < q; p += q < 128 || q == 255 || q % 255 == 0 || q % 127 == 0 ? 1 : 5) {
                if (calls++ % 500 == 0) {
                    x = new Kneadery();
                }
                compareCompanion(x, p, q);
            }
        }
    }

    private static void compareCompanion(Kneadery x, int p, int q) {
        String name = "companion(" + p + ", " + q + ")";
        for (int period = 1; period <= 8; period++) {
            int whole = (1 << period) - 1;
            if (p * whole % q == 0) {
                if (period == 1) {
                    CHECK.throwing(27, name, Check.STATE, () -> x.companion(p, q));
                } else {
                    CHECK.due(27, name, PARTNERS[period][p * whole / q], () -> x.companion(p, q));
                }
                return;
            }
        }
        CHECK.throwing(27, name, Check.STATE, () -> x.companion(p, q));
    }

    /** Whichever is asked first, and whatever is asked between. */
    private static void companionFirst() {
        for (int period = 2; period <= 8; period++) {
            int q = (1 << period) - 1;
            Kneadery x = new Kneadery();
            for (int p = 1; p < q && p < 60; p++) {
                if (PARTNERS[period][p] > 0) {
                    int asked = p;
                    CHECK.due(27, "companion(" + p + ", " + q + ")", PARTNERS[period][p], () -> x.companion(asked, q));
                    CHECK.due(27, "companion(2, 3)", 1, () -> x.companion(2, 3));
                    CHECK.due(26, "address(3, 7, 2)", 3, () -> x.address(3, 7, 2));
                    CHECK.due(24, "angle(1, 6, true)", 2, () -> x.angle(1, 6, true));
                }
            }
        }
    }

    private static void companionOfNone() {
        Kneadery x = new Kneadery();
        int[][] none = {{0, 1}, {0, 7}, {0, 1023}, {1, 2}, {1, 6}, {1, 14}, {1, 511}, {1, 1023}, {5, 1022}, {1, 256},
            {1, 11}, {1, 73}};
        for (int[] n : none) {
            CHECK.throwing(27, "companion(" + n[0] + ", " + n[1] + ")", Check.STATE, () -> x.companion(n[0], n[1]));
        }
        CHECK.due(27, "companion(341, 1023) is that of 1/3", 2, () -> x.companion(341, 1023));
        CHECK.due(27, "companion(146, 1022) is that of 1/7", 2, () -> x.companion(146, 1022));
    }
}
