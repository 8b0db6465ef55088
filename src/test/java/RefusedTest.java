import java.util.ArrayList;
import java.util.List;

/**
 * A call that throws changes nothing, nor does one that only asks: an object that got it, more than once, goes on
 * just like its twin that never did. Each row is tried on a new object, one told a little, and one that is full.
 */
public final class RefusedTest {
    private static final Check CHECK = new Check();
    private static final int NEW = 0;
    private static final int SOME = 1;
    private static final int FULL = 2;
    private static final int MOST_CALLS = 512;

    /** A call on an object, its answer told as a number. */
    interface Row {
        long on(Kneadery x);
    }

    public static void main(String[] args) {
        mapsRefused();
        patternsRefused();
        wordsRefused();
        anglesRefused();
        asked();
        everythingRefused();
        CHECK.end();
    }

    private static Kneadery told(int kind) {
        Kneadery x = new Kneadery();
        if (kind == SOME) {
            x.straight();
            x.node(0, 0, 1, 1, 3);
            x.node(0, 1, 2, 1, 1);
            x.squared(-3, 4);
            x.pattern(3421);
            x.mapOf(0);
            x.word(3, 1);
            x.word(1, 1);
        }
        if (kind == FULL) {
            x.straight();
            for (int k = 0; k < 8; k++) {
                x.node(0, k, 2, 7 - k, 2);
            }
            x.squared(-2, 1);
            int[] patterns = {21, 231, 312, 2341, 3421, 23451, 35421, 234561, 2345671, 23456781, 87653214, 4312};
            for (int images : patterns) {
                x.pattern(images);
            }
            for (int map = 2; map < 12; map++) {
                x.mapOf(map - 1);
            }
            for (int word = 0; word < 30; word++) {
                x.word(word % 25, 0x52a5b1 + 77 * word);
            }
        }
        return x;
    }

    /** Thrown exceptions count as numbers of their own. */
    private static long answer(Row row, Kneadery x) {
        try {
            return row.on(x);
        } catch (IndexOutOfBoundsException e) {
            return -1000001;
        } catch (IllegalArgumentException e) {
            return -1000002;
        } catch (IllegalStateException e) {
            return -1000003;
        }
    }

    private static void ask(List<Long> told, Kneadery x, Row row) {
        told.add(answer(row, x));
    }

    /** All that is kept, as far as it shows; at last it tells until nothing more goes in. */
    private static List<Long> state(Kneadery x) {
        List<Long> told = new ArrayList<>();
        for (int map = 0; map <= 12; map++) {
            int m = map;
            ask(told, x, y -> y.orbit(m, 1, 3, 0));
            ask(told, x, y -> y.orbit(m, 1, 3, 1));
            ask(told, x, y -> y.point(m, 5, 2, 1, false));
            ask(told, x, y -> y.point(m, 5, 2, 2, true));
        }
        for (int pattern = 0; pattern <= 12; pattern++) {
            int p = pattern;
            ask(told, x, y -> y.images(p));
            ask(told, x, y -> y.ways(p, 9));
        }
        for (int word = 0; word <= 30; word++) {
            int w = word;
            ask(told, x, y -> y.letter(w, 0));
            ask(told, x, y -> y.letter(w, w % 25));
            ask(told, x, y -> y.compare(w, 29 - w));
            ask(told, x, y -> y.factor(w));
        }
        ask(told, x, y -> y.companion(13, 31));
        ask(told, x, y -> y.angle(3, 28, false));
        ask(told, x, y -> y.onCycles(13, 4));
        for (int map = 0; map < 12; map++) {
            int m = map;
            ask(told, x, y -> y.node(m, 98, 1, 1, 1));
            ask(told, x, y -> y.node(m, 99, 1, 2, 1));
        }
        for (int i = 0; i < 13; i++) {
            ask(told, x, y -> y.straight());
            ask(told, x, y -> y.pattern(21));
        }
        for (int i = 0; i < 31; i++) {
            ask(told, x, y -> y.word(24, 5));
        }
        return told;
    }

    private static void same(int promise, String name, int kind, Kneadery x) {
        List<Long> want = state(told(kind));
        List<Long> got = state(x);
        CHECK.due(promise, name + " changes nothing", 1, () -> Check.one(want.equals(got)));
        CHECK.due(promise, "the test's own calls", 1, () -> Check.one(want.size() + 80 < MOST_CALLS));
    }

    private static void refused(int promise, String name, int kind, Class<?> want, Row row) {
        Kneadery x = told(kind);
        for (int i = 0; i < 3; i++) {
            CHECK.throwing(promise, name, want, () -> row.on(x));
        }
        same(promise, name, kind, x);
    }

    private static void refusedByAll(int promise, String name, Class<?> want, Row row) {
        for (int kind = NEW; kind <= FULL; kind++) {
            refused(promise, name, kind, want, row);
        }
    }

    private static void mapsRefused() {
        refused(2, "straight of 13", FULL, Check.STATE, x -> x.straight());
        refusedByAll(3, "node of no map", Check.INDEX, x -> x.node(12, 0, 1, 0, 1));
        refusedByAll(3, "node of -1", Check.INDEX, x -> x.node(-1, 99, 1, 0, 1));
        refused(3, "node of a squared map", SOME, Check.INDEX, x -> x.node(1, 99, 1, 0, 1));
        refused(3, "node of a squared map", FULL, Check.INDEX, x -> x.node(1, 99, 1, 0, 1));
        int[][] wrong = {{100, 1, 0, 1}, {99, 0, 0, 1}, {99, 10, 0, 1}, {99, 1, 100, 1}, {99, 1, 0, 0}, {99, 1, 0, 10}};
        for (int[] w : wrong) {
            refused(3, "node out of range", SOME, Check.ARGUMENT, x -> x.node(0, w[0], w[1], w[2], w[3]));
            refused(3, "node of a pattern's map out of range", SOME, Check.ARGUMENT,
                    x -> x.node(2, w[0], w[1], w[2], w[3]));
            refused(3, "node of a full map out of range", FULL, Check.ARGUMENT,
                    x -> x.node(0, w[0], w[1], w[2], w[3]));
        }
        refused(3, "a node at its last place", SOME, Check.STATE, x -> x.node(0, 2, 4, 9, 1));
        refused(3, "a node below its last place", SOME, Check.STATE, x -> x.node(0, 1, 3, 9, 1));
        refused(3, "a node below its first place", SOME, Check.STATE, x -> x.node(0, -1, 1, 9, 1));
        refused(3, "a node at a pattern's last point", SOME, Check.STATE, x -> x.node(2, 4, 1, 9, 1));
        refused(3, "a ninth node", FULL, Check.STATE, x -> x.node(0, 99, 1, 0, 1));
        refused(3, "a ninth node of a pattern's map", FULL, Check.STATE, x -> x.node(11, 99, 1, 0, 1));
        refusedByAll(4, "squared by 0", Check.ARGUMENT, x -> x.squared(0, 0));
        refusedByAll(4, "squared of 1000", Check.ARGUMENT, x -> x.squared(1000, 1));
        refused(4, "squared of 13", FULL, Check.STATE, x -> x.squared(0, 1));
        refusedByAll(5, "mapOf no pattern", Check.INDEX, x -> x.mapOf(12));
        refusedByAll(5, "mapOf -1", Check.INDEX, x -> x.mapOf(-1));
        refused(5, "mapOf of 13", FULL, Check.STATE, x -> x.mapOf(0));
        refusedByAll(6, "orbit of no map", Check.INDEX, x -> x.orbit(12, 0, 1, 0));
        refused(6, "orbit out of range", SOME, Check.ARGUMENT, x -> x.orbit(0, 10000, 1, 0));
        refused(6, "orbit, what is out of range", FULL, Check.ARGUMENT, x -> x.orbit(0, 1, 1, 4));
        refusedByAll(7, "point of no map", Check.INDEX, x -> x.point(12, 0, 1, 0, true));
        refused(7, "point out of range", SOME, Check.ARGUMENT, x -> x.point(0, 0, 1, 1001, true));
        refused(7, "no such point", FULL, Check.STATE, x -> x.point(0, 9, 2, 1, true));
    }

    private static void patternsRefused() {
        refusedByAll(8, "forces 0", Check.ARGUMENT, x -> Check.one(x.forces(3, 0)));
        for (int images : new int[] {0, 1, 12, 2143, 2340, 234567891, -21}) {
            refusedByAll(9, "pattern(" + images + ")", Check.ARGUMENT, x -> x.pattern(images));
        }
        refused(9, "pattern of 13", FULL, Check.STATE, x -> x.pattern(231));
        refusedByAll(10, "images of no pattern", Check.INDEX, x -> x.images(12));
        refusedByAll(11, "covers of no pattern", Check.INDEX, x -> Check.one(x.covers(12, 1, 1)));
        refused(11, "covers of no piece", SOME, Check.INDEX, x -> Check.one(x.covers(0, 4, 1)));
        refused(11, "covers of no other piece", FULL, Check.INDEX, x -> Check.one(x.covers(0, 1, 2)));
        refusedByAll(12, "ways of no pattern", Check.INDEX, x -> x.ways(12, 1));
        refused(12, "ways of 21", SOME, Check.ARGUMENT, x -> x.ways(0, 21));
        refusedByAll(13, "loops of no pattern", Check.INDEX, x -> x.loops(12, 1));
        refused(13, "loops of 7", FULL, Check.ARGUMENT, x -> x.loops(0, 7));
        refusedByAll(14, "loopsAnew of no pattern", Check.INDEX, x -> x.loopsAnew(12, 1));
        refused(14, "loopsAnew of 7", FULL, Check.ARGUMENT, x -> x.loopsAnew(0, 7));
    }

    private static void wordsRefused() {
        refusedByAll(15, "word of 25 letters", Check.ARGUMENT, x -> x.word(25, 1));
        refusedByAll(15, "word of -1 letters", Check.ARGUMENT, x -> x.word(-1, 1));
        refused(15, "word of 31", FULL, Check.STATE, x -> x.word(2, 1));
        refusedByAll(16, "letter of no word", Check.INDEX, x -> x.letter(30, 0));
        refused(16, "letter behind C", SOME, Check.INDEX, x -> x.letter(0, 4));
        refusedByAll(17, "compare no word", Check.INDEX, x -> x.compare(30, 0));
        refusedByAll(17, "compare to no word", Check.INDEX, x -> x.compare(0, 30));
        refusedByAll(18, "isGreatest of no word", Check.INDEX, x -> Check.one(x.isGreatest(30)));
        refusedByAll(19, "count(10)", Check.ARGUMENT, x -> x.count(10));
        refusedByAll(20, "countAnew(10)", Check.ARGUMENT, x -> x.countAnew(10));
        refusedByAll(21, "product of no word", Check.INDEX, x -> x.product(30, 0));
        refusedByAll(21, "product by no word", Check.INDEX, x -> x.product(0, 30));
        refused(21, "product of 31", FULL, Check.STATE, x -> x.product(0, 0));
        refused(21, "product of 625", FULL, Check.STATE, x -> x.product(24, 24));
        refusedByAll(22, "factor of no word", Check.INDEX, x -> x.factor(30));
        refusedByAll(23, "patternOf no word", Check.INDEX, x -> x.patternOf(30));
        refused(23, "patternOf of 13", FULL, Check.STATE, x -> x.patternOf(1));
        refused(23, "patternOf a long word", FULL, Check.STATE, x -> x.patternOf(24));
        Kneadery x = told(SOME);
        x.word(24, 1);
        x.word(0, 0);
        x.word(1, 0);
        CHECK.throwing(21, "product of 25 letters and more", Check.STATE, () -> x.product(2, 1));
        CHECK.throwing(23, "patternOf a long word", Check.STATE, () -> x.patternOf(2));
        CHECK.throwing(23, "patternOf C", Check.STATE, () -> x.patternOf(3));
        CHECK.throwing(23, "patternOf LC", Check.STATE, () -> x.patternOf(4));
        CHECK.due(21, "no word was made of it", 5, () -> x.product(3, 2));
        CHECK.due(23, "no pattern was made of it", 1, () -> x.patternOf(1));
    }

    private static void anglesRefused() {
        refusedByAll(24, "angle of no angle", Check.ARGUMENT, x -> x.angle(7, 7, true));
        refusedByAll(25, "turn of no angle", Check.ARGUMENT, x -> x.turn(0, 1024, 1));
        refusedByAll(25, "turn(1, 7, 1001)", Check.ARGUMENT, x -> x.turn(1, 7, 1001));
        refusedByAll(26, "address at -1", Check.INDEX, x -> x.address(1, 7, -1));
        refusedByAll(26, "address of no angle", Check.ARGUMENT, x -> x.address(-1, 7, 1));
        refusedByAll(27, "companion of no angle", Check.ARGUMENT, x -> x.companion(0, 0));
        refusedByAll(27, "companion of a point ahead", Check.STATE, x -> x.companion(1, 510));
        refusedByAll(27, "companion of the period 9", Check.STATE, x -> x.companion(1, 511));
        refusedByAll(28, "remainder by 9", Check.ARGUMENT, x -> x.remainder(9, 0, 0, true));
        refusedByAll(28, "remainder from 7 by 7", Check.ARGUMENT, x -> x.remainder(7, 0, 7, true));
        refusedByAll(29, "onCycles by 1", Check.ARGUMENT, x -> x.onCycles(1, 0));
        refusedByAll(29, "onCycles by 7 and 7", Check.ARGUMENT, x -> x.onCycles(7, 7));
    }

    private static void changesNothing(int promise, String name, int kind, Row row) {
        Kneadery x = told(kind);
        long want = answer(row, told(kind));
        for (int i = 0; i < 3; i++) {
            CHECK.due(promise, name, want, () -> row.on(x));
        }
        same(promise, name, kind, x);
    }

    /** What is asked changes nothing: on the objects that are told a little, and full. */
    private static void asked() {
        for (int kind = SOME; kind <= FULL; kind++) {
            changesNothing(6, "orbit", kind, x -> x.orbit(0, 1, 7, 1));
            changesNothing(6, "orbit of a squared map", kind, x -> x.orbit(1, 1, 7, 3));
            changesNothing(7, "point", kind, x -> x.point(0, 1, 2, 1, false));
            changesNothing(8, "forces", kind, x -> Check.one(x.forces(3, 4)));
            changesNothing(10, "images", kind, x -> x.images(0));
            changesNothing(11, "covers", kind, x -> Check.one(x.covers(0, 1, 1)));
            changesNothing(12, "ways", kind, x -> x.ways(0, 20));
            changesNothing(13, "loops", kind, x -> x.loops(0, 6));
            changesNothing(14, "loopsAnew", kind, x -> x.loopsAnew(0, 6));
            changesNothing(16, "letter", kind, x -> x.letter(1, 1));
            changesNothing(17, "compare", kind, x -> x.compare(1, 0));
            changesNothing(18, "isGreatest", kind, x -> Check.one(x.isGreatest(1)));
            changesNothing(19, "count", kind, x -> x.count(9));
            changesNothing(20, "countAnew", kind, x -> x.countAnew(9));
            changesNothing(22, "factor", kind, x -> x.factor(1));
            changesNothing(24, "angle", kind, x -> x.angle(1, 1019, true));
            changesNothing(25, "turn", kind, x -> x.turn(1, 7, 1000));
            changesNothing(26, "address", kind, x -> x.address(1, 2, 63));
            changesNothing(27, "companion", kind, x -> x.companion(254, 255));
            changesNothing(28, "remainder", kind, x -> x.remainder(997, 1, 996, true));
            changesNothing(29, "onCycles", kind, x -> x.onCycles(997, 996));
        }
    }

    /** Many refused calls on one object, one behind the other. */
    private static void everythingRefused() {
        List<Row> rows = List.of(x -> x.straight(), x -> x.squared(0, 1), x -> x.mapOf(3), x -> x.pattern(21),
                x -> x.word(3, 5), x -> x.product(0, 0), x -> x.patternOf(1), x -> x.node(0, 99, 1, 0, 1),
                x -> x.product(24, 24), x -> x.point(0, 9, 2, 1, true), x -> x.companion(1, 511));
        Kneadery x = told(FULL);
        for (Row row : rows) {
            CHECK.throwing(1, "one of many", Check.STATE, () -> row.on(x));
        }
        same(1, "all of them together", FULL, x);
    }
}
