import java.lang.reflect.Constructor;
import java.lang.reflect.Field;
import java.lang.reflect.Method;
import java.lang.reflect.Modifier;
import java.util.Arrays;
import java.util.Set;
import java.util.TreeSet;

/** The public face, as the document tells it, and nothing beside it. */
public final class FaceTest {
    private static final Check CHECK = new Check();

    private static final String[] METHODS = {"int straight()", "int node(int,int,int,int,int)", "int squared(int,int)",
        "int mapOf(int)", "int orbit(int,int,int,int)", "int point(int,int,int,int,boolean)", "boolean forces(int,int)",
        "int pattern(int)", "int images(int)", "boolean covers(int,int,int)", "long ways(int,int)",
        "int loops(int,int)", "int loopsAnew(int,int)", "int word(int,int)", "char letter(int,int)",
        "int compare(int,int)",
        "boolean isGreatest(int)", "int count(int)", "int countAnew(int)", "int product(int,int)", "int factor(int)",
        "int patternOf(int)", "int angle(int,int,boolean)", "int turn(int,int,int)", "int address(int,int,int)",
        "int companion(int,int)", "int remainder(int,int,int,boolean)", "int onCycles(int,int)"};

    public static void main(String[] args) {
        constants();
        members();
        CHECK.end();
    }

    private static void constants() {
        CHECK.due(6, "NONE", -1, () -> Kneadery.NONE);
        CHECK.due(6, "CYCLES", 0, () -> Kneadery.CYCLES);
        CHECK.due(6, "LEAVES", 1, () -> Kneadery.LEAVES);
        CHECK.due(6, "LOST", 2, () -> Kneadery.LOST);
        CHECK.due(6, "OPEN", 3, () -> Kneadery.OPEN);
    }

    private static void members() {
        Set<String> methods = new TreeSet<>();
        for (Method m : Kneadery.class.getDeclaredMethods()) {
            if (!Modifier.isPrivate(m.getModifiers()) && !m.isSynthetic()) {
                StringBuilder text = new StringBuilder(m.getReturnType() + " " + m.getName() + "(");
                for (Class<?> type : m.getParameterTypes()) {
                    text.append(text.charAt(text.length() - 1) == '(' ? "" : ",").append(type);
                }
                methods.add(text + ")");
            }
        }
        Set<String> fields = new TreeSet<>();
        for (Field f : Kneadery.class.getDeclaredFields()) {
            if (!Modifier.isPrivate(f.getModifiers()) && !f.isSynthetic()) {
                fields.add(Modifier.toString(f.getModifiers()) + " " + f.getType() + " " + f.getName());
            }
        }
        Set<String> due = new TreeSet<>();
        for (String name : new String[] {"NONE", "CYCLES", "LEAVES", "LOST", "OPEN"}) {
            due.add("public static final int " + name);
        }
        Set<String> dueMethods = new TreeSet<>(Arrays.asList(METHODS));
        if (!methods.equals(dueMethods)) {
            System.out.println("due " + dueMethods + ", there are " + methods);
        }
        CHECK.due(1, "the methods of the face", 1, () -> Check.one(methods.equals(dueMethods)));
        CHECK.due(1, "the constants of the face", 1, () -> Check.one(fields.equals(due)));
        Constructor<?>[] constructors = Kneadery.class.getDeclaredConstructors();
        CHECK.due(1, "one constructor", 1, () -> constructors.length);
        CHECK.due(1, "it is public, without arguments", 1, () -> Check.one(constructors[0].getParameterCount() == 0
                && Modifier.isPublic(constructors[0].getModifiers())));
        CHECK.due(1, "the class is public and final", Modifier.PUBLIC | Modifier.FINAL,
                () -> Kneadery.class.getModifiers());
    }
}
