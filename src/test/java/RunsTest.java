/** Long runs: what is asked, and a call that throws, changes nothing, so a fresh object answers the same. */
public final class RunsTest {
    private static final Check CHECK = new Check();
    private static final int KINDS = 27;

    public static void main(String[] args) {
        for (int seed = 1; seed <= 12; seed++) {
            run(new Numbers(seed), seed);
        }
        CHECK.end();
    }

    private static Kneadery told() {
        Kneadery x = new Kneadery();
        x.straight();
        x.node(0, 0, 1, 0, 1);
        x.node(0, 1, 2, 1, 1);
        x.node(0, 1, 1, 0, 1);
        x.squared(-29, 16);
        x.squared(-2, 1);
        x.straight();
        for (int digits : new int[] {21, 231, 3421, 35421, 234561, 23456781}) {
            x.pattern(digits);
        }
        x.mapOf(3);
        for (int i = 0; i < 12; i++) {
            x.word(i, 0x5b1 * (i + 3) | 1);
        }
        x.product(1, 2);
        return x;
    }

    private static void run(Numbers numbers, int seed) {
        Kneadery x = told();
        for (int i = 0; i < 440; i++) {
            int kind = numbers.between(0, KINDS - 1);
            int a = numbers.between(-1, 7);
            int b = numbers.between(-2, 13);
            int c = numbers.between(-1, 12);
            int d = numbers.between(-1, 5);
            long want = answer(told(), kind, a, b, c, d);
            CHECK.due(1, "run " + seed + " call " + i + " of kind " + kind, want, () -> answer(x, kind, a, b, c, d));
        }
        CHECK.due(1, "the next map", 5, () -> x.straight());
        CHECK.due(1, "the next pattern", 6, () -> x.pattern(21));
        CHECK.due(1, "the next word", 13, () -> x.word(0, 0));
    }

    /** A thrown exception counts as a number of its own. */
    private static long answer(Kneadery x, int kind, int a, int b, int c, int d) {
        try {
            if (kind < 11) {
                return first(x, kind, a, b, c, d);
            }
            return kind < 20 ? second(x, kind, a, b, c, d) : refused(x, kind, a, b, c);
        } catch (IndexOutOfBoundsException e) {
            return -1000001;
        } catch (IllegalArgumentException e) {
            return -1000002;
        } catch (IllegalStateException e) {
            return -1000003;
        }
    }

    private static long first(Kneadery x, int kind, int a, int b, int c, int d) {
        switch (kind) {
            case 0:
                return x.orbit(a, b, c, d);
            case 1:
                return x.point(a, b, c, d, true);
            case 2:
                return x.point(a, b, c, 40 * d, false);
            case 3:
                return Check.one(x.forces(b, c));
            case 4:
                return x.images(a);
            case 5:
                return Check.one(x.covers(a, d, d + 1));
            case 6:
                return x.ways(a, b + c);
            case 7:
                return x.loops(a, d + 1);
            case 8:
                return x.loopsAnew(a, d + 1);
            case 9:
                return x.letter(b, d);
            default:
                return x.compare(b, c);
        }
    }

    private static long second(Kneadery x, int kind, int a, int b, int c, int d) {
        switch (kind) {
            case 11:
                return Check.one(x.isGreatest(b));
            case 12:
                return x.count(d + 3);
            case 13:
                return x.countAnew(b);
            case 14:
                return x.factor(b);
            case 15:
                return x.angle(b, c, d > 2);
            case 16:
                return x.turn(b, c, 7 * d);
            case 17:
                return x.address(b, c, a);
            case 18:
                return x.companion(b, 2 * c + 1);
            default:
                return x.remainder(13, c, b, d > 2) + x.onCycles(11, c);
        }
    }

    /** What would tell or make something, but always throws. */
    private static long refused(Kneadery x, int kind, int a, int b, int c) {
        switch (kind) {
            case 20:
                return x.node(a, b, 1, 0, 0);
            case 21:
                return x.node(0, b % 2, 1, 0, 1);
            case 22:
                return x.squared(b, 0);
            case 23:
                return x.pattern(b);
            case 24:
                return x.product(11, 10);
            case 25:
                return c > 3 ? x.patternOf(0) : x.mapOf(6);
            default:
                return x.word(26 + c, 0);
        }
    }
}
