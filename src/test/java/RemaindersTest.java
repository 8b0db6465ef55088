/** Promises 28 and 29: remainders. */
public final class RemaindersTest {
    private static final Check CHECK = new Check();

    public static void main(String[] args) {
        wrong();
        primes();
        byHand();
        smallPrimes();
        largePrimes();
        CHECK.end();
    }

    private static void wrong() {
        Kneadery x = new Kneadery();
        int[] noPrimes = {-7, -1, 0, 1, 4, 9, 25, 91, 961, 989, 999, 1000, 1009, Check.LOWEST, Check.HIGHEST};
        for (int prime : noPrimes) {
            CHECK.throwing(28, "remainder by " + prime, Check.ARGUMENT, () -> x.remainder(prime, 0, 0, true));
            CHECK.throwing(28, "remainder by " + prime, Check.ARGUMENT, () -> x.remainder(prime, 0, 0, false));
            CHECK.throwing(29, "onCycles by " + prime, Check.ARGUMENT, () -> x.onCycles(prime, 0));
        }
        int[] wrong = {-1, 7, 8, Check.LOWEST, Check.HIGHEST};
        for (int w : wrong) {
            CHECK.throwing(28, "remainder(7, " + w + ", 0)", Check.ARGUMENT, () -> x.remainder(7, w, 0, true));
            CHECK.throwing(28, "remainder(7, 0, " + w + ")", Check.ARGUMENT, () -> x.remainder(7, 0, w, false));
            CHECK.throwing(29, "onCycles(7, " + w + ")", Check.ARGUMENT, () -> x.onCycles(7, w));
        }
        CHECK.throwing(28, "remainder(2, 2, 0)", Check.ARGUMENT, () -> x.remainder(2, 2, 0, true));
        CHECK.throwing(28, "remainder(997, 0, 997)", Check.ARGUMENT, () -> x.remainder(997, 0, 997, true));
        CHECK.due(28, "remainder(997, 996, 996)", 1, () -> x.remainder(997, 996, 996, true) > 0 ? 1 : 0);
    }

    /** Every number up to 1030: taken if it is a prime up to 997, refused otherwise. */
    private static void primes() {
        Kneadery x = null;
        for (int n = -3; n <= 1030; n++) {
            if ((n + 3) % 200 == 0) {
                x = new Kneadery();
            }
            Kneadery y = x;
            int prime = n;
            if (RemainderOracle.isPrime(n) && n <= 997) {
                CHECK.due(28, "0 stays by " + n, 1, () -> y.remainder(prime, 0, 0, true));
                CHECK.due(29, "on cycles by " + n, RemainderOracle.onCycles(prime, 1), () -> y.onCycles(prime, 1));
            } else {
                CHECK.throwing(28, "remainder by " + n, Check.ARGUMENT, () -> y.remainder(prime, 0, 0, true));
                CHECK.throwing(29, "onCycles by " + n, Check.ARGUMENT, () -> y.onCycles(prime, 0));
            }
        }
    }

    private static void byHand() {
        Kneadery x = new Kneadery();
        // By 7 and 1: 0, 1, 2, 5, 5; 3 to 3; 4 to 3; 6 to 2.
        int[][] seven = {{0, 3, 1}, {1, 2, 1}, {2, 1, 1}, {3, 0, 1}, {4, 1, 1}, {5, 0, 1}, {6, 2, 1}};
        for (int[] s : seven) {
            CHECK.due(28, "ahead of " + s[0], s[1], () -> x.remainder(7, 1, s[0], false));
            CHECK.due(28, "period of " + s[0], s[2], () -> x.remainder(7, 1, s[0], true));
        }
        CHECK.due(29, "by 7 and 1", 2, () -> x.onCycles(7, 1));
        CHECK.due(29, "by 2 and 0", 2, () -> x.onCycles(2, 0));
        CHECK.due(29, "by 2 and 1", 2, () -> x.onCycles(2, 1));
        CHECK.due(28, "by 2 and 1, period", 2, () -> x.remainder(2, 1, 0, true));
        // By 3 and 2: 0, 2, 0; 1 to 0.
        CHECK.due(28, "by 3 and 2, ahead of 1", 1, () -> x.remainder(3, 2, 1, false));
        CHECK.due(28, "by 3 and 2, period of 1", 2, () -> x.remainder(3, 2, 1, true));
        CHECK.due(29, "by 3 and 2", 2, () -> x.onCycles(3, 2));
    }

    private static void smallPrimes() {
        for (int prime = 2; prime < 50; prime++) {
            if (!RemainderOracle.isPrime(prime)) {
                continue;
            }
            for (int c = 0; c < prime; c++) {
                compare(prime, c, 1);
            }
        }
    }

    private static void largePrimes() {
        int[] primes = {53, 97, 101, 127, 251, 257, 499, 509, 761, 887, 991, 997};
        for (int prime : primes) {
            for (int c = 0; c < prime; c += c < 3 ? 1 : prime / 7) {
                compare(prime, c, 1 + prime / 40);
            }
            compare(prime, prime - 1, 1 + prime / 40);
            compare(prime, prime - 2, 1 + prime / 40);
        }
    }

    private static void compare(int prime, int c, int by) {
        Kneadery x = new Kneadery();
        for (int from = 0; from < prime; from += by) {
            compareOne(x, prime, c, from);
        }
        compareOne(x, prime, c, prime - 1);
        int want = RemainderOracle.onCycles(prime, c);
        CHECK.due(29, "onCycles(" + prime + ", " + c + ")", want, () -> x.onCycles(prime, c));
    }

    private static void compareOne(Kneadery x, int prime, int c, int from) {
        int[] walk = RemainderOracle.walk(prime, c, from);
        String name = "remainder(" + prime + ", " + c + ", " + from + ")";
        CHECK.due(28, name + " ahead", walk[0], () -> x.remainder(prime, c, from, false));
        CHECK.due(28, name + " period", walk[1], () -> x.remainder(prime, c, from, true));
    }
}
