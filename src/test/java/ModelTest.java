import java.util.ArrayList;
import java.util.List;

/**
 * Mixed runs of 512 calls, all promises together: each answer, and each exception, is that of the model. Most calls are
 * within their ranges, some at the ends of these, some just outside. Then each call with all rows of extreme arguments.
 */
public final class ModelTest {
    private static final Check CHECK = new Check();
    private static final int RUNS = 80;
    private static final int MOST_CALLS = 512;
    private static final int[] EXTREMES = {Check.LOWEST, -1, 0, 1, 2, Check.HIGHEST};
    private static final List<Kind> KINDS = new ArrayList<>();

    interface Draw {
        int[] from(Drawn drawn);
    }

    interface OnProgram {
        long call(Kneadery x, int[] a);
    }

    interface OnModel {
        long call(Model m, int[] a);
    }

    /** A call of the face, how its arguments are drawn, and how it is made on both. */
    private static final class Kind {
        final int promise;
        final String name;
        final Draw draw;
        final OnProgram program;
        final OnModel model;

        Kind(int promise, String name, Draw draw, OnProgram program, OnModel model) {
            this.promise = promise;
            this.name = name;
            this.draw = draw;
            this.program = program;
            this.model = model;
        }
    }

    public static void main(String[] args) {
        addMaps();
        addPatterns();
        addWords();
        addAngles();
        int[] answered = new int[30];
        int[] thrown = new int[30];
        for (int seed = 1; seed <= RUNS; seed++) {
            run(seed, answered, thrown);
        }
        for (Kind kind : KINDS) {
            CHECK.due(kind.promise, "the runs' own calls of " + kind.name + ", answered", 1,
                    () -> Check.one(answered[kind.promise] > 100));
            CHECK.due(kind.promise, "the runs' own calls of " + kind.name + ", refused", 1,
                    () -> Check.one(thrown[kind.promise] > 100));
        }
        for (Kind kind : KINDS) {
            extremes(kind);
        }
        CHECK.end();
    }

    private static void add(int promise, String name, Draw draw, OnProgram program, OnModel model) {
        KINDS.add(new Kind(promise, name, draw, program, model));
    }

    private static void addMaps() {
        add(2, "straight", d -> new int[] {}, (x, a) -> x.straight(), (m, a) -> m.straight());
        add(3, "node", Drawn::node, (x, a) -> x.node(a[0], a[1], a[2], a[3], a[4]),
                (m, a) -> m.node(a[0], a[1], a[2], a[3], a[4]));
        add(4, "squared", Drawn::squared, (x, a) -> x.squared(a[0], a[1]), (m, a) -> m.squared(a[0], a[1]));
        add(5, "mapOf", d -> new int[] {d.pattern()}, (x, a) -> x.mapOf(a[0]), (m, a) -> m.mapOf(a[0]));
        add(6, "orbit", d -> d.start(d.within(0, 3), 0), (x, a) -> x.orbit(a[0], a[1], a[2], a[3]),
                (m, a) -> m.orbit(a[0], a[1], a[2], a[3]));
        add(7, "point", d -> d.start(d.step(), d.either()), (x, a) -> x.point(a[0], a[1], a[2], a[3], a[4] == 1),
                (m, a) -> m.point(a[0], a[1], a[2], a[3], a[4] == 1));
    }

    private static void addPatterns() {
        add(8, "forces", d -> new int[] {d.period(), d.period()}, (x, a) -> Check.one(x.forces(a[0], a[1])),
                (m, a) -> Check.one(m.forces(a[0], a[1])));
        add(9, "pattern", d -> new int[] {d.images()}, (x, a) -> x.pattern(a[0]), (m, a) -> m.pattern(a[0]));
        add(10, "images", d -> new int[] {d.pattern()}, (x, a) -> x.images(a[0]), (m, a) -> m.images(a[0]));
        add(11, "covers", Drawn::pieces, (x, a) -> Check.one(x.covers(a[0], a[1], a[2])),
                (m, a) -> Check.one(m.covers(a[0], a[1], a[2])));
        add(12, "ways", d -> new int[] {d.pattern(), d.within(1, 20)}, (x, a) -> x.ways(a[0], a[1]),
                (m, a) -> m.ways(a[0], a[1]));
        add(13, "loops", d -> new int[] {d.pattern(), d.within(1, 6)}, (x, a) -> x.loops(a[0], a[1]),
                (m, a) -> m.loops(a[0], a[1]));
        add(14, "loopsAnew", d -> new int[] {d.pattern(), d.within(1, 6)}, (x, a) -> x.loopsAnew(a[0], a[1]),
                (m, a) -> m.loops(a[0], a[1]));
    }

    private static void addWords() {
        add(15, "word", Drawn::letters, (x, a) -> x.word(a[0], a[1]), (m, a) -> m.word(a[0], a[1]));
        add(16, "letter", Drawn::place, (x, a) -> x.letter(a[0], a[1]), (m, a) -> m.letter(a[0], a[1]));
        add(17, "compare", d -> new int[] {d.word(), d.word()}, (x, a) -> x.compare(a[0], a[1]),
                (m, a) -> m.compare(a[0], a[1]));
        add(18, "isGreatest", d -> new int[] {d.word()}, (x, a) -> Check.one(x.isGreatest(a[0])),
                (m, a) -> Check.one(m.isGreatest(a[0])));
        add(19, "count", d -> new int[] {d.within(0, 9)}, (x, a) -> x.count(a[0]), (m, a) -> m.count(a[0]));
        add(20, "countAnew", d -> new int[] {d.within(0, 9)}, (x, a) -> x.countAnew(a[0]), (m, a) -> m.count(a[0]));
        add(21, "product", d -> new int[] {d.word(), d.word()}, (x, a) -> x.product(a[0], a[1]),
                (m, a) -> m.product(a[0], a[1]));
        add(22, "factor", d -> new int[] {d.word()}, (x, a) -> x.factor(a[0]), (m, a) -> m.factor(a[0]));
        add(23, "patternOf", d -> new int[] {d.word()}, (x, a) -> x.patternOf(a[0]), (m, a) -> m.patternOf(a[0]));
    }

    private static void addAngles() {
        add(24, "angle", d -> d.angle(d.either()), (x, a) -> x.angle(a[0], a[1], a[2] == 1),
                (m, a) -> m.angle(a[0], a[1], a[2] == 1));
        add(25, "turn", d -> d.angle(d.within(1, 1000)), (x, a) -> x.turn(a[0], a[1], a[2]),
                (m, a) -> m.turn(a[0], a[1], a[2]));
        add(26, "address", d -> d.angle(d.within(0, 20)), (x, a) -> x.address(a[0], a[1], a[2]),
                (m, a) -> m.address(a[0], a[1], a[2]));
        add(27, "companion", d -> d.shortAngle(), (x, a) -> x.companion(a[0], a[1]), (m, a) -> m.companion(a[0], a[1]));
        add(28, "remainder", d -> d.remainder(), (x, a) -> x.remainder(a[0], a[1], a[2], a[3] == 1),
                (m, a) -> m.remainder(a[0], a[1], a[2], a[3] == 1));
        add(29, "onCycles", d -> d.remainder(), (x, a) -> x.onCycles(a[0], a[1]), (m, a) -> m.onCycles(a[0], a[1]));
    }

    /** In the first runs all kinds come alike; later ones have a few that come more often. */
    private static void run(int seed, int[] answered, int[] thrown) {
        Numbers numbers = new Numbers(seed * 7919L);
        Kneadery x = new Kneadery();
        Model model = new Model();
        Drawn drawn = new Drawn(numbers, model);
        int often = numbers.between(0, KINDS.size() - 5);
        for (int call = 1; call <= MOST_CALLS; call++) {
            boolean isOften = seed > RUNS / 4 && numbers.between(0, 2) == 0;
            Kind kind = KINDS.get(isOften ? often + numbers.between(0, 4) : numbers.between(0, KINDS.size() - 1));
            int[] a = kind.draw.from(drawn);
            if (compare("run " + seed + ", call " + call, kind, x, model, a)) {
                answered[kind.promise]++;
            } else {
                thrown[kind.promise]++;
            }
        }
    }

    /** Returns whether the model answers; it throws otherwise. */
    private static boolean compare(String where, Kind kind, Kneadery x, Model model, int[] a) {
        StringBuilder name = new StringBuilder(where + ": " + kind.name);
        for (int i : a) {
            name.append(' ').append(i);
        }
        try {
            long want = kind.model.call(model, a);
            CHECK.due(kind.promise, name.toString(), want, () -> kind.program.call(x, a));
            return true;
        } catch (RuntimeException e) {
            CHECK.throwing(kind.promise, name.toString(), e.getClass(), () -> kind.program.call(x, a));
            return false;
        }
    }

    /** On new objects that are told a little, so that 0, 1 and 2 are there. */
    private static void extremes(Kind kind) {
        int arguments = kind.draw.from(new Drawn(new Numbers(1), new Model())).length;
        int rows = 1;
        for (int i = 0; i < arguments; i++) {
            rows *= EXTREMES.length;
        }
        for (int row = 0; row < rows; row++) {
            int[] a = new int[arguments];
            int rest = row;
            for (int i = 0; i < arguments; i++) {
                a[i] = EXTREMES[rest % EXTREMES.length];
                rest /= EXTREMES.length;
            }
            Kneadery x = new Kneadery();
            Model model = new Model();
            for (Kind told : KINDS) {
                tellALittle(told, x, model);
            }
            compare("extreme", kind, x, model, a);
        }
    }

    private static void tellALittle(Kind kind, Kneadery x, Model model) {
        int[][] rows = {};
        switch (kind.name) {
            case "straight" -> rows = new int[][] {{}};
            case "node" -> rows = new int[][] {{0, 0, 1, 0, 1}, {0, 1, 2, 2, 1}};
            case "squared" -> rows = new int[][] {{-1, 1}};
            case "pattern" -> rows = new int[][] {{231}, {21}, {3421}};
            case "word" -> rows = new int[][] {{2, 1}, {24, 5}, {0, 0}};
            default -> { }
        }
        for (int[] a : rows) {
            compare("told", kind, x, model, a);
        }
    }
}
