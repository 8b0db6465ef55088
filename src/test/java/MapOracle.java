import java.math.BigInteger;
import java.util.ArrayList;
import java.util.HashMap;
import java.util.List;
import java.util.Map;

/** Orbits by the document's words, with whole numbers of any length. */
final class MapOracle {
    private static final BigInteger MOST = BigInteger.valueOf(1000000000);

    /** A fraction, reduced, with a number above 0 below the line. */
    static final class Part {
        final BigInteger p;
        final BigInteger q;

        Part(BigInteger p, BigInteger q) {
            BigInteger d = p.gcd(q);
            if (q.signum() < 0) {
                d = d.negate();
            }
            this.p = p.divide(d);
            this.q = q.divide(d);
        }

        static Part of(long p, long q) {
            return new Part(BigInteger.valueOf(p), BigInteger.valueOf(q));
        }

        Part plus(Part o) {
            return new Part(p.multiply(o.q).add(o.p.multiply(q)), q.multiply(o.q));
        }

        Part minus(Part o) {
            return new Part(p.multiply(o.q).subtract(o.p.multiply(q)), q.multiply(o.q));
        }

        Part times(Part o) {
            return new Part(p.multiply(o.p), q.multiply(o.q));
        }

        Part by(Part o) {
            return new Part(p.multiply(o.q), q.multiply(o.p));
        }

        int sign() {
            return p.signum();
        }

        boolean isTooLong() {
            return p.abs().compareTo(MOST) > 0 || q.compareTo(MOST) > 0;
        }

        String text() {
            return p + "/" + q;
        }
    }

    private final boolean isSquared;
    private Part c;
    private final List<Part> places = new ArrayList<>();
    private final List<Part> heights = new ArrayList<>();

    int end;
    int period;
    final List<Part> points = new ArrayList<>();

    /** A straight map. */
    MapOracle() {
        isSquared = false;
    }

    /** A squared map. */
    MapOracle(int p, int q) {
        isSquared = true;
        c = Part.of(p, q);
    }

    MapOracle node(int p, int q, int r, int s) {
        places.add(Part.of(p, q));
        heights.add(Part.of(r, s));
        return this;
    }

    boolean isStraight() {
        return !isSquared;
    }

    int nodes() {
        return places.size();
    }

    boolean isBehindAll(int p, int q) {
        return places.stream().allMatch(place -> Part.of(p, q).minus(place).sign() > 0);
    }

    /** What the map makes of x; null where it is not told. */
    private Part made(Part x) {
        if (isSquared) {
            return x.times(x).plus(c);
        }
        for (int i = 0; i < places.size(); i++) {
            if (x.minus(places.get(i)).sign() == 0) {
                return heights.get(i);
            }
        }
        for (int i = 1; i < places.size(); i++) {
            Part left = places.get(i - 1);
            Part right = places.get(i);
            if (x.minus(left).sign() > 0 && x.minus(right).sign() < 0) {
                Part rise = heights.get(i).minus(heights.get(i - 1));
                return heights.get(i - 1).plus(rise.times(x.minus(left)).by(right.minus(left)));
            }
        }
        return null;
    }

    MapOracle run(int p, int q) {
        points.clear();
        period = 0;
        Map<String, Integer> steps = new HashMap<>();
        Part x = Part.of(p, q);
        for (int n = 0; ; n++) {
            Integer earlier = steps.get(x.text());
            if (earlier != null) {
                end = Kneadery.CYCLES;
                period = n - earlier;
                return this;
            }
            steps.put(x.text(), n);
            points.add(x);
            if (n == 100) {
                end = Kneadery.OPEN;
                return this;
            }
            Part next = made(x);
            if (next == null) {
                end = Kneadery.LEAVES;
                return this;
            }
            if (next.isTooLong()) {
                end = Kneadery.LOST;
                return this;
            }
            x = next;
        }
    }

    int told(int what) {
        switch (what) {
            case 0:
                return end;
            case 1:
                return points.size();
            case 2:
                return period;
            default:
                return end == Kneadery.LEAVES || end == Kneadery.LOST ? points.size() - 1 : Kneadery.NONE;
        }
    }

    /** The point n; null if there is none. */
    Part point(int n) {
        int at = n;
        while (at >= points.size()) {
            if (period == 0) {
                return null;
            }
            at -= period;
        }
        return points.get(at);
    }
}
