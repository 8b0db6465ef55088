/** The boundary cases of promises 24 to 27, one test for each sentence that names one. */
public final class AngleBoundsTest {
    private static final Check CHECK = new Check();
    /** What is no angle: a p below 0, or not below q; a q below 1 or above 1023. */
    private static final int[][] NO_ANGLES = {{0, 0}, {0, -1}, {0, 1024}, {1, 1024}, {-1, 1}, {1, 1}, {-1, 7}, {7, 7},
        {8, 7}, {-1, 1023}, {1023, 1023}, {1024, 1023}, {1024, 1024}, {-1, 0}, {1, 0}, {-2, -1}, {0, Check.LOWEST},
        {0, Check.HIGHEST}, {Check.LOWEST, 7}, {Check.HIGHEST, 7}, {Check.LOWEST, Check.LOWEST},
        {Check.HIGHEST, Check.HIGHEST}};

    public static void main(String[] args) {
        angleLeastAndGreatest();
        angleJustOutside();
        angleWithoutPointsAhead();
        angleMostAheadAndLongest();
        angleInLongerForms();
        turnLeastAndGreatest();
        turnJustOutside();
        turnOfZero();
        turnAtTheHalves();
        turnOnAndOn();
        addressJustOutside();
        addressOfZero();
        addressUpToSixtyFour();
        addressEndsByItsLetter();
        addressEndsBehindSixtyFour();
        companionLeastAndGreatest();
        companionJustOutside();
        companionOfPointsAhead();
        companionOfOtherPeriods();
        companionInLongerForms();
        companionsAroundOthers();
        companionAskedInAnyOrder();
        CHECK.end();
    }

    private static String name(int[] angle) {
        return angle[0] + "/" + angle[1];
    }

    // ---- promise 24

    private static void angle(int p, int q, int ahead, int period) {
        Kneadery x = new Kneadery();
        CHECK.due(24, "ahead of " + p + "/" + q, ahead, () -> x.angle(p, q, false));
        CHECK.due(24, "period of " + p + "/" + q, period, () -> x.angle(p, q, true));
    }

    private static void angleLeastAndGreatest() {
        angle(0, 1, 0, 1);
        angle(0, 2, 0, 1);
        angle(1, 2, 1, 1);
        angle(0, 1023, 0, 1);
        angle(1, 1023, 0, 10);
        angle(1022, 1023, 0, 10);
        angle(1021, 1022, 1, 9);
        angle(1021, 1023, 0, 10);
    }

    private static void angleJustOutside() {
        Kneadery x = new Kneadery();
        for (int[] w : NO_ANGLES) {
            CHECK.throwing(24, "ahead of " + name(w), Check.ARGUMENT, () -> x.angle(w[0], w[1], false));
            CHECK.throwing(24, "period of " + name(w), Check.ARGUMENT, () -> x.angle(w[0], w[1], true));
        }
    }

    private static void angleWithoutPointsAhead() {
        angle(1, 3, 0, 2);
        angle(2, 3, 0, 2);
        angle(1, 7, 0, 3);
        angle(3, 5, 0, 4);
    }

    /** Nine halvings at the most are in a q; the longest cycle goes through all but 0 of 1019. */
    private static void angleMostAheadAndLongest() {
        angle(1, 512, 9, 1);
        angle(511, 512, 9, 1);
        angle(256, 512, 1, 1);
        angle(1, 256, 8, 1);
        angle(1, 768, 8, 2);
        angle(1, 1019, 0, 1018);
        angle(1018, 1019, 0, 1018);
        angle(1, 1022, 1, 9);
    }

    private static void angleInLongerForms() {
        angle(2, 6, 0, 2);
        angle(341, 1023, 0, 2);
        angle(511, 1022, 1, 1);
        angle(500, 1000, 1, 1);
        angle(999, 1000, 3, 100);
        angle(170, 1020, 1, 2);
    }

    // ---- promise 25

    private static void turn(int p, int q, int k, int want) {
        Kneadery x = new Kneadery();
        CHECK.due(25, "turn(" + p + ", " + q + ", " + k + ")", want, () -> x.turn(p, q, k));
    }

    /** The letter 1 is by t itself, which is always between its half and that of t and 1, but for 0. */
    private static void turnLeastAndGreatest() {
        turn(1, 2, 1, 1);
        turn(1, 1023, 1, 1);
        turn(1022, 1023, 1, 1);
        turn(1, 5, 999, 0);
        turn(1, 5, 1000, 2);
        turn(1, 2, 1000, 0);
    }

    private static void turnJustOutside() {
        Kneadery x = new Kneadery();
        for (int k : new int[] {0, -1, 1001, 1002, Check.LOWEST, Check.HIGHEST}) {
            CHECK.throwing(25, "turn(0, 1, " + k + ")", Check.ARGUMENT, () -> x.turn(0, 1, k));
            CHECK.throwing(25, "turn(1022, 1023, " + k + ")", Check.ARGUMENT, () -> x.turn(1022, 1023, k));
        }
        for (int[] w : NO_ANGLES) {
            for (int k : new int[] {0, 1, 1000, 1001}) {
                CHECK.throwing(25, "turn " + k + " of " + name(w), Check.ARGUMENT, () -> x.turn(w[0], w[1], k));
            }
        }
    }

    private static void turnOfZero() {
        for (int q : new int[] {1, 2, 1023}) {
            turn(0, q, 1, 2);
            turn(0, q, 2, 2);
            turn(0, q, 1000, 2);
        }
    }

    /** Of fifths: where t, doubled, is at half of t, or half of t and 1, or a tenth beside these. */
    private static void turnAtTheHalves() {
        int[][] rows = {{1, 1, 1, 0, 2}, {2, 1, 0, 1, 2}, {3, 1, 0, 1, 2}, {4, 1, 1, 0, 2}};
        for (int[] r : rows) {
            for (int k = 1; k <= 4; k++) {
                turn(r[0], 5, k, r[k]);
            }
        }
        // Half of 2/3 is 1/3, half of 1/3 and 1 is 2/3.
        turn(2, 3, 2, 2);
        turn(1, 3, 2, 2);
        // The halves of 1/2 are 1/4 and 3/4, those of 1/4 are 1/8 and 5/8.
        turn(1, 2, 2, 0);
        turn(1, 4, 1, 1);
        turn(1, 4, 2, 1);
        turn(1, 4, 3, 0);
        turn(3, 4, 2, 1);
        turn(3, 4, 3, 0);
    }

    private static void turnOnAndOn() {
        int[] fifth = {1, 1, 0, 2};
        Kneadery x = new Kneadery();
        for (int k : new int[] {1, 2, 3, 4, 5, 6, 7, 8, 64, 65, 499, 500, 501, 997, 998, 999, 1000}) {
            CHECK.due(25, "turn(1, 5, " + k + ")", fifth[(k - 1) % 4], () -> x.turn(1, 5, k));
        }
        // Only at the end of its cycle is the longest one at a half.
        for (int k : new int[] {1, 2, 3, 10, 999, 1000}) {
            CHECK.due(25, "turn(1, 1019, " + k + ") is none of 2", 1, () -> Check.one(x.turn(1, 1019, k) != 2));
        }
    }

    // ---- promise 26

    private static void address(int p, int q, int... want) {
        Kneadery x = new Kneadery();
        for (int i = 0; i < want.length; i++) {
            int place = i;
            CHECK.due(26, "address(" + p + ", " + q + ", " + place + ")", want[place], () -> x.address(p, q, place));
        }
        for (int place : new int[] {want.length, want.length + 1, 64, 65, 1000, Check.HIGHEST}) {
            if (place >= want.length) {
                CHECK.due(26, "address(" + p + ", " + q + ", " + place + ")", Kneadery.NONE,
                        () -> x.address(p, q, place));
            }
        }
    }

    private static void addressJustOutside() {
        Kneadery x = new Kneadery();
        for (int place : new int[] {-1, -2, Check.LOWEST}) {
            CHECK.throwing(26, "address(0, 1, " + place + ")", Check.INDEX, () -> x.address(0, 1, place));
            for (int[] w : NO_ANGLES) {
                CHECK.throwing(26, "address at " + place + " of " + name(w), Check.INDEX,
                        () -> x.address(w[0], w[1], place));
            }
        }
        for (int[] w : NO_ANGLES) {
            for (int place : new int[] {0, 1, 64, Check.HIGHEST}) {
                CHECK.throwing(26, "address at " + place + " of " + name(w), Check.ARGUMENT,
                        () -> x.address(w[0], w[1], place));
            }
        }
        CHECK.due(26, "at 0 of the greatest", 1, () -> x.address(1022, 1023, 0));
    }

    /** Its letter 1 is 2: the row ends at once. */
    private static void addressOfZero() {
        address(0, 1, 1);
        address(0, 2, 1);
        address(0, 1023, 1);
    }

    /** Of 1/2 every number is one, but for those above 64. */
    private static void addressUpToSixtyFour() {
        int[] all = new int[64];
        for (int i = 0; i < 64; i++) {
            all[i] = i + 1;
        }
        address(1, 2, all);
        address(511, 1022, all);
    }

    /** At a number where the letter is 2: the period of the angle; 64 itself is one for 641. */
    private static void addressEndsByItsLetter() {
        address(1, 3, 1, 2);
        address(2, 3, 1, 2);
        address(1, 7, 1, 3);
        address(3, 7, 1, 2, 3);
        address(1, 15, 1, 4);
        address(2, 5, 1, 2, 4);
        address(1022, 1023, 1, 10);
        address(1, 641, 1, 10, 11, 14, 15, 19, 20, 21, 22, 24, 25, 33, 34, 35, 36, 37, 38, 39, 40, 41, 44, 45, 48, 49,
                50, 55, 58, 59, 60, 61, 62, 63, 64);
    }

    /** The number behind would be 65 or more. */
    private static void addressEndsBehindSixtyFour() {
        int[] odd = new int[32];
        int[] even = new int[33];
        for (int i = 0; i < 32; i++) {
            odd[i] = 2 * i + 1;
        }
        System.arraycopy(new int[] {1, 2}, 0, even, 0, 2);
        for (int i = 2; i < 33; i++) {
            even[i] = 2 * i;
        }
        address(1, 6, odd);
        address(5, 6, odd);
        address(5, 12, even);
        address(211, 457, 1, 2, 3, 5, 6, 11, 14, 17, 18, 20, 22, 25, 26, 27, 34, 36, 38);
        address(3, 10, 1, 5, 9, 13, 17, 21, 25, 29, 33, 37, 41, 45, 49, 53, 57, 61);
        address(5, 14, 1, 2, 5, 8, 11, 14, 17, 20, 23, 26, 29, 32, 35, 38, 41, 44, 47, 50, 53, 56, 59, 62);
    }

    // ---- promise 27

    private static void pair(int low, int high, int q) {
        Kneadery x = new Kneadery();
        CHECK.due(27, "companion(" + low + ", " + q + ")", high, () -> x.companion(low, q));
        CHECK.due(27, "companion(" + high + ", " + q + ")", low, () -> x.companion(high, q));
    }

    /** The lowest two, and the highest two, of each period from 2 to 8. */
    private static void companionLeastAndGreatest() {
        for (int period = 2; period <= 8; period++) {
            int q = (1 << period) - 1;
            pair(1, 2, q);
            pair(q - 2, q - 1, q);
        }
    }

    private static void companionJustOutside() {
        Kneadery x = new Kneadery();
        for (int[] w : NO_ANGLES) {
            CHECK.throwing(27, "companion of " + name(w), Check.ARGUMENT, () -> x.companion(w[0], w[1]));
        }
    }

    private static void none(int p, int q) {
        Kneadery x = new Kneadery();
        CHECK.throwing(27, "companion(" + p + ", " + q + ")", Check.STATE, () -> x.companion(p, q));
    }

    private static void companionOfPointsAhead() {
        none(1, 2);
        none(1, 6);
        none(5, 6);
        none(1, 14);
        none(1, 510);
        none(255, 510);
        none(1, 512);
        none(1, 1020);
        none(1, 1022);
    }

    private static void companionOfOtherPeriods() {
        for (int q : new int[] {1, 2, 3, 255, 256, 511, 1023}) {
            none(0, q);
        }
        none(1, 511);
        none(510, 511);
        none(1, 73);
        none(2, 1022);
        none(1, 1023);
        none(1022, 1023);
        none(1, 11);
        none(1, 1019);
    }

    /** The answer is always by 2 to the power of the period, less 1. */
    private static void companionInLongerForms() {
        int[][] rows = {{1, 3, 2}, {2, 3, 1}, {2, 6, 2}, {341, 1023, 2}, {682, 1023, 1}, {5, 15, 2}, {85, 255, 2},
            {1, 5, 4}, {2, 5, 9}, {3, 5, 6}, {4, 5, 11}, {102, 255, 9}, {2, 510, 2}, {4, 1020, 2}, {1016, 1020, 253},
            {146, 1022, 2}, {8, 14, 3}, {1, 9, 8}, {1, 17, 16}, {33, 1023, 2}, {990, 1023, 29}};
        for (int[] r : rows) {
            Kneadery x = new Kneadery();
            CHECK.due(27, "companion(" + r[0] + ", " + r[1] + ")", r[2], () -> x.companion(r[0], r[1]));
        }
    }

    /** Not the next angle of the period, since others were joined of which just one is between. */
    private static void companionsAroundOthers() {
        pair(6, 9, 15);
        pair(13, 18, 31);
        pair(14, 17, 31);
        pair(15, 16, 31);
        pair(7, 8, 15);
        pair(3, 4, 7);
        pair(1, 2, 3);
    }

    /** The pairs of a period do not depend on which were asked for before. */
    private static void companionAskedInAnyOrder() {
        Kneadery x = new Kneadery();
        Kneadery y = new Kneadery();
        for (int i = 8; i >= 2; i--) {
            int down = (1 << i) - 1;
            int up = (1 << 10 - i) - 1;
            CHECK.due(27, "falling periods, " + i, 2, () -> x.companion(1, down));
            CHECK.due(27, "rising periods, " + (10 - i), 2, () -> y.companion(1, up));
        }
        for (int k = 1; k < 255; k++) {
            int p = k;
            if (k % 17 != 0) {
                CHECK.due(27, "both tell the same for " + k, y.companion(p, 255), () -> x.companion(p, 255));
            }
        }
    }
}
