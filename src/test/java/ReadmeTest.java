import java.io.IOException;
import java.nio.file.Files;
import java.nio.file.Path;
import java.util.ArrayList;
import java.util.List;

/** The calls that README.md shows, one behind the other on one object: each answers what stands behind it there. */
public final class ReadmeTest {
    private static final Kneadery X = new Kneadery();
    private static final List<String> ROWS = new ArrayList<>();
    private static int next;
    private static int wrong;

    interface Call {
        Object now();
    }

    public static void main(String[] args) throws IOException {
        for (String line : Files.readAllLines(Path.of("README.md"))) {
            if (line.startsWith("x.")) {
                ROWS.add(line);
            }
        }
        maps();
        patterns();
        words();
        anglesAndRemainders();
        refused();
        if (next != ROWS.size()) {
            tell("it has " + ROWS.size() + " calls, " + next + " are tested");
        }
        System.out.println(next + " calls checked, " + wrong + " not as README.md says");
        if (wrong != 0) {
            System.exit(1);
        }
    }

    private static void tell(String what) {
        wrong++;
        System.out.println("README.md: " + what);
    }

    private static void row(String call, Call got) {
        String answer;
        try {
            answer = String.valueOf(got.now());
        } catch (RuntimeException e) {
            answer = e.getClass().getSimpleName();
        }
        String row = next < ROWS.size() ? ROWS.get(next) : "nothing";
        if (!row.matches("\\Qx." + call + ";\\E +// \\Q" + answer + "\\E(: .*)?")) {
            tell("x." + call + " answered " + answer + ", there stands " + row);
        }
        next++;
    }

    private static void maps() {
        row("straight()", () -> X.straight());
        row("node(0, 0, 1, 0, 1)", () -> X.node(0, 0, 1, 0, 1));
        row("node(0, 1, 2, 1, 1)", () -> X.node(0, 1, 2, 1, 1));
        row("node(0, 1, 1, 0, 1)", () -> X.node(0, 1, 1, 0, 1));
        row("squared(-29, 16)", () -> X.squared(-29, 16));
        row("orbit(0, 2, 7, 0)", () -> X.orbit(0, 2, 7, 0));
        row("orbit(0, 2, 7, 1)", () -> X.orbit(0, 2, 7, 1));
        row("orbit(0, 2, 7, 2)", () -> X.orbit(0, 2, 7, 2));
        row("point(0, 2, 7, 1, false)", () -> X.point(0, 2, 7, 1, false));
        row("point(0, 2, 7, 1, true)", () -> X.point(0, 2, 7, 1, true));
        row("point(0, 2, 7, 1000, false)", () -> X.point(0, 2, 7, 1000, false));
        row("orbit(0, 3, 2, 0)", () -> X.orbit(0, 3, 2, 0));
        row("orbit(0, 3, 2, 3)", () -> X.orbit(0, 3, 2, 3));
        row("orbit(1, 1, 3, 0)", () -> X.orbit(1, 1, 3, 0));
        row("orbit(1, -1, 4, 2)", () -> X.orbit(1, -1, 4, 2));
    }

    private static void patterns() {
        row("forces(3, 1000)", () -> X.forces(3, 1000));
        row("forces(4, 6)", () -> X.forces(4, 6));
        row("pattern(231)", () -> X.pattern(231));
        row("images(0)", () -> X.images(0));
        row("covers(0, 1, 2)", () -> X.covers(0, 1, 2));
        row("covers(0, 1, 1)", () -> X.covers(0, 1, 1));
        row("ways(0, 20)", () -> X.ways(0, 20));
        row("loops(0, 5)", () -> X.loops(0, 5));
        row("loopsAnew(0, 5)", () -> X.loopsAnew(0, 5));
        row("mapOf(0)", () -> X.mapOf(0));
        row("orbit(2, 1, 1, 2)", () -> X.orbit(2, 1, 1, 2));
    }

    private static void words() {
        row("word(1, 1)", () -> X.word(1, 1));
        row("word(2, 1)", () -> X.word(2, 1));
        row("compare(0, 1)", () -> X.compare(0, 1));
        row("isGreatest(1)", () -> X.isGreatest(1));
        row("count(9)", () -> X.count(9));
        row("countAnew(9)", () -> X.countAnew(9));
        row("product(0, 1)", () -> X.product(0, 1));
        row("letter(2, 4)", () -> X.letter(2, 4));
        row("letter(2, 5)", () -> X.letter(2, 5));
        row("factor(2)", () -> X.factor(2));
        row("patternOf(1)", () -> X.patternOf(1));
        row("images(1)", () -> X.images(1));
    }

    private static void anglesAndRemainders() {
        row("angle(1, 6, false)", () -> X.angle(1, 6, false));
        row("angle(1, 6, true)", () -> X.angle(1, 6, true));
        row("turn(1, 6, 3)", () -> X.turn(1, 6, 3));
        row("address(3, 7, 1)", () -> X.address(3, 7, 1));
        row("address(3, 7, 3)", () -> X.address(3, 7, 3));
        row("companion(3, 7)", () -> X.companion(3, 7));
        row("remainder(7, 1, 0, false)", () -> X.remainder(7, 1, 0, false));
        row("remainder(7, 1, 0, true)", () -> X.remainder(7, 1, 0, true));
        row("onCycles(7, 1)", () -> X.onCycles(7, 1));
    }

    private static void refused() {
        row("images(2)", () -> X.images(2));
        row("pattern(213)", () -> X.pattern(213));
        row("companion(1, 6)", () -> X.companion(1, 6));
    }
}
