import java.util.HashMap;
import java.util.Map;

/** Squares by remainders by the document's words. */
final class RemainderOracle {
    private RemainderOracle() {
    }

    static boolean isPrime(int n) {
        for (int d = 2; d < n; d++) {
            if (n % d == 0) {
                return false;
            }
        }
        return n > 1;
    }

    /** The ahead and the period. */
    static int[] walk(int prime, int c, int x) {
        Map<Integer, Integer> steps = new HashMap<>();
        int at = x;
        int n = 0;
        while (!steps.containsKey(at)) {
            steps.put(at, n++);
            at = (at * at + c) % prime;
        }
        return new int[] {steps.get(at), n - steps.get(at)};
    }

    static int onCycles(int prime, int c) {
        int found = 0;
        for (int x = 0; x < prime; x++) {
            found += walk(prime, c, x)[0] == 0 ? 1 : 0;
        }
        return found;
    }
}
