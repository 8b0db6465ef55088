/** The boundary cases of promises 28 and 29, one test for each sentence that names one. */
public final class RemainderBoundsTest {
    private static final Check CHECK = new Check();
    private static final int[] NO_PRIMES = {-997, -7, -2, -1, 0, 1, 4, 6, 8, 9, 15, 25, 49, 121, 169, 289, 361, 529,
        841, 961, 989, 993, 995, 996, 998, 999, 1000, 1001, 1009, 1013, 1024, 65537, 994009,
        Check.LOWEST, Check.HIGHEST};

    public static void main(String[] args) {
        primesLeastAndGreatest();
        primesJustOutside();
        cLeastAndGreatest();
        cJustOutside();
        xLeastAndGreatest();
        xJustOutside();
        aheadOfTheLeast();
        cyclesOfTheLeast();
        cyclesOfTheGreatest();
        CHECK.end();
    }

    private static void primesLeastAndGreatest() {
        Kneadery x = new Kneadery();
        for (int prime : new int[] {2, 3, 5, 7, 11, 953, 967, 971, 977, 983, 991, 997}) {
            compare(x, prime, 0, 0);
            compare(x, prime, prime - 1, prime - 1);
        }
    }

    private static void primesJustOutside() {
        Kneadery x = new Kneadery();
        for (int no : NO_PRIMES) {
            CHECK.throwing(28, "remainder(" + no + ", 0, 0)", Check.ARGUMENT, () -> x.remainder(no, 0, 0, true));
            CHECK.throwing(28, "remainder(" + no + ", 1, 1)", Check.ARGUMENT, () -> x.remainder(no, 1, 1, false));
            CHECK.throwing(28, "remainder(" + no + ", -1, -1)", Check.ARGUMENT, () -> x.remainder(no, -1, -1, false));
            CHECK.throwing(29, "onCycles(" + no + ", 0)", Check.ARGUMENT, () -> x.onCycles(no, 0));
            CHECK.throwing(29, "onCycles(" + no + ", -1)", Check.ARGUMENT, () -> x.onCycles(no, -1));
        }
    }

    private static void cLeastAndGreatest() {
        Kneadery x = new Kneadery();
        for (int prime : new int[] {2, 3, 7, 997}) {
            compare(x, prime, 0, prime - 1);
            compare(x, prime, 1, prime - 1);
            compare(x, prime, prime - 1, 0);
            compare(x, prime, prime - 1, 1);
        }
    }

    private static void cJustOutside() {
        Kneadery x = new Kneadery();
        for (int prime : new int[] {2, 3, 7, 997}) {
            for (int c : new int[] {-1, prime, prime + 1, Check.LOWEST, Check.HIGHEST}) {
                String name = "(" + prime + ", " + c + ")";
                CHECK.throwing(28, "remainder " + name, Check.ARGUMENT, () -> x.remainder(prime, c, 0, true));
                CHECK.throwing(28, "remainder " + name, Check.ARGUMENT, () -> x.remainder(prime, c, prime, false));
                CHECK.throwing(29, "onCycles " + name, Check.ARGUMENT, () -> x.onCycles(prime, c));
            }
        }
    }

    private static void xLeastAndGreatest() {
        Kneadery x = new Kneadery();
        for (int prime : new int[] {2, 3, 7, 997}) {
            for (int c = 0; c < prime; c += prime > 7 ? 83 : 1) {
                compare(x, prime, c, 0);
                compare(x, prime, c, 1);
                compare(x, prime, c, prime - 1);
            }
        }
    }

    private static void xJustOutside() {
        Kneadery x = new Kneadery();
        for (int prime : new int[] {2, 3, 7, 997}) {
            for (int from : new int[] {-1, prime, prime + 1, Check.LOWEST, Check.HIGHEST}) {
                String name = "remainder(" + prime + ", 0, " + from + ")";
                CHECK.throwing(28, name, Check.ARGUMENT, () -> x.remainder(prime, 0, from, true));
                CHECK.throwing(28, name, Check.ARGUMENT, () -> x.remainder(prime, 0, from, false));
            }
        }
    }

    /** From x on, so x itself may be on the cycle: then none is ahead. */
    private static void aheadOfTheLeast() {
        // Prime, c, x, ahead, period.
        int[][] rows = {{2, 0, 0, 0, 1}, {2, 0, 1, 0, 1}, {2, 1, 0, 0, 2}, {2, 1, 1, 0, 2}, {3, 0, 0, 0, 1},
            {3, 0, 1, 0, 1}, {3, 0, 2, 1, 1}, {3, 1, 0, 2, 1}, {3, 1, 1, 1, 1}, {3, 1, 2, 0, 1}, {3, 2, 0, 0, 2},
            {3, 2, 1, 1, 2}, {3, 2, 2, 0, 2}, {997, 0, 996, 1, 1}, {997, 0, 0, 0, 1}, {997, 0, 1, 0, 1},
            {997, 996, 0, 0, 2}, {997, 996, 996, 0, 2}, {997, 996, 1, 1, 2}};
        Kneadery x = new Kneadery();
        for (int[] r : rows) {
            String name = "remainder(" + r[0] + ", " + r[1] + ", " + r[2] + ")";
            CHECK.due(28, name + ", ahead", r[3], () -> x.remainder(r[0], r[1], r[2], false));
            CHECK.due(28, name + ", period", r[4], () -> x.remainder(r[0], r[1], r[2], true));
        }
    }

    private static void cyclesOfTheLeast() {
        int[][] rows = {{2, 0, 2}, {2, 1, 2}, {3, 0, 2}, {3, 1, 1}, {3, 2, 2}};
        Kneadery x = new Kneadery();
        for (int[] r : rows) {
            CHECK.due(29, "onCycles(" + r[0] + ", " + r[1] + ")", r[2], () -> x.onCycles(r[0], r[1]));
        }
    }

    private static void cyclesOfTheGreatest() {
        Kneadery x = new Kneadery();
        for (int prime : new int[] {991, 997}) {
            for (int c : new int[] {0, 1, 2, prime / 2, prime - 2, prime - 1}) {
                int want = RemainderOracle.onCycles(prime, c);
                CHECK.due(29, "onCycles(" + prime + ", " + c + ")", want, () -> x.onCycles(prime, c));
            }
        }
    }

    private static void compare(Kneadery x, int prime, int c, int from) {
        int[] walk = RemainderOracle.walk(prime, c, from);
        String name = "remainder(" + prime + ", " + c + ", " + from + ")";
        CHECK.due(28, name + ", ahead", walk[0], () -> x.remainder(prime, c, from, false));
        CHECK.due(28, name + ", period", walk[1], () -> x.remainder(prime, c, from, true));
    }
}
