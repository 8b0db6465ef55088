import java.lang.reflect.Constructor;
import java.lang.reflect.Field;
import java.lang.reflect.Method;
import java.lang.reflect.Modifier;
import java.util.Set;
import java.util.TreeSet;

/** The public face, as the document tells it, and nothing beside it. */
public final class FaceTest {
    private static final Check CHECK = new Check();

    /** The methods as they stand in the document, those of the promises 2 to 29 one behind the other. */
    private static final String[] METHODS = """
            int straight() throws IllegalStateException
            int node(int map, int p, int q, int r, int s) throws IndexOutOfBoundsException, IllegalArgumentException, \
            IllegalStateException
            int squared(int p, int q) throws IllegalArgumentException, IllegalStateException
            int mapOf(int pattern) throws IndexOutOfBoundsException, IllegalStateException
            int orbit(int map, int p, int q, int what) throws IndexOutOfBoundsException, IllegalArgumentException
            int point(int map, int p, int q, int n, boolean isBelow) throws IndexOutOfBoundsException, \
            IllegalArgumentException, IllegalStateException
            boolean forces(int period, int other) throws IllegalArgumentException
            int pattern(int images) throws IllegalArgumentException, IllegalStateException
            int images(int pattern) throws IndexOutOfBoundsException
            boolean covers(int pattern, int piece, int other) throws IndexOutOfBoundsException
            long ways(int pattern, int n) throws IndexOutOfBoundsException, IllegalArgumentException
            int loops(int pattern, int n) throws IndexOutOfBoundsException, IllegalArgumentException
            int loopsAnew(int pattern, int n) throws IndexOutOfBoundsException, IllegalArgumentException
            int word(int letters, int set) throws IllegalArgumentException, IllegalStateException
            char letter(int word, int place) throws IndexOutOfBoundsException
            int compare(int word, int other) throws IndexOutOfBoundsException
            boolean isGreatest(int word) throws IndexOutOfBoundsException
            int count(int letters) throws IllegalArgumentException
            int countAnew(int letters) throws IllegalArgumentException
            int product(int word, int other) throws IndexOutOfBoundsException, IllegalStateException
            int factor(int word) throws IndexOutOfBoundsException
            int patternOf(int word) throws IndexOutOfBoundsException, IllegalStateException
            int angle(int p, int q, boolean isPeriod) throws IllegalArgumentException
            int turn(int p, int q, int k) throws IllegalArgumentException
            int address(int p, int q, int place) throws IndexOutOfBoundsException, IllegalArgumentException
            int companion(int p, int q) throws IllegalArgumentException, IllegalStateException
            int remainder(int prime, int c, int x, boolean isPeriod) throws IllegalArgumentException
            int onCycles(int prime, int c) throws IllegalArgumentException
            """.split("\n");

    public static void main(String[] args) {
        constants();
        methods();
        nothingBeside();
        CHECK.end();
    }

    private static void constants() {
        CHECK.due(6, "NONE", -1, () -> Kneadery.NONE);
        CHECK.due(6, "CYCLES", 0, () -> Kneadery.CYCLES);
        CHECK.due(6, "LEAVES", 1, () -> Kneadery.LEAVES);
        CHECK.due(6, "LOST", 2, () -> Kneadery.LOST);
        CHECK.due(6, "OPEN", 3, () -> Kneadery.OPEN);
        Set<String> due = new TreeSet<>();
        for (String name : new String[] {"NONE", "CYCLES", "LEAVES", "LOST", "OPEN"}) {
            due.add("public static final int " + name);
        }
        Set<String> fields = new TreeSet<>();
        for (Field f : Kneadery.class.getDeclaredFields()) {
            if (!Modifier.isPrivate(f.getModifiers()) && !f.isSynthetic()) {
                fields.add(Modifier.toString(f.getModifiers()) + " " + f.getType() + " " + f.getName());
            }
        }
        CHECK.due(1, "the constants of the face", 1, () -> Check.one(fields.equals(due)));
    }

    /** What a method of the face is, but for the names of its parameters. */
    private static String told(Method m) {
        StringBuilder text = new StringBuilder(m.getReturnType() + " " + m.getName() + "(");
        for (Class<?> type : m.getParameterTypes()) {
            text.append(text.charAt(text.length() - 1) == '(' ? "" : ", ").append(type);
        }
        text.append(')');
        for (int i = 0; i < m.getExceptionTypes().length; i++) {
            text.append(i == 0 ? " throws " : ", ").append(m.getExceptionTypes()[i].getSimpleName());
        }
        return text.toString();
    }

    private static void methods() {
        Set<String> methods = new TreeSet<>();
        for (Method m : Kneadery.class.getDeclaredMethods()) {
            if (!Modifier.isPrivate(m.getModifiers()) && !m.isSynthetic()) {
                methods.add(told(m));
                CHECK.due(1, m.getName() + " is public, and nothing else", Modifier.PUBLIC, () -> m.getModifiers());
            }
        }
        for (String method : METHODS) {
            String due = method.replaceAll("(int|boolean) \\w+([,)])", "$1$2");
            CHECK.due(1, due, 1, () -> Check.one(methods.contains(due)));
        }
        CHECK.due(1, "the methods of the face", 28, () -> METHODS.length);
        CHECK.due(1, "there are no others", 28, () -> methods.size());
    }

    private static void nothingBeside() {
        Constructor<?>[] constructors = Kneadery.class.getDeclaredConstructors();
        CHECK.due(1, "one constructor", 1, () -> constructors.length);
        CHECK.due(1, "it is public, without arguments", 1, () -> Check.one(constructors[0].getParameterCount() == 0
                && constructors[0].getModifiers() == Modifier.PUBLIC));
        CHECK.due(1, "the class is public and final", Modifier.PUBLIC | Modifier.FINAL,
                () -> Kneadery.class.getModifiers());
        CHECK.due(1, "it is of no package", 0, () -> Kneadery.class.getPackageName().length());
        CHECK.due(1, "it is below no other class", 1, () -> Check.one(Kneadery.class.getSuperclass() == Object.class));
        CHECK.due(1, "it implements nothing", 0, () -> Kneadery.class.getInterfaces().length);
    }
}
