import java.io.IOException;
import java.lang.reflect.Field;
import java.lang.reflect.Method;
import java.lang.reflect.Modifier;
import java.nio.charset.StandardCharsets;
import java.nio.file.Files;
import java.nio.file.Path;
import java.util.ArrayList;
import java.util.Arrays;
import java.util.List;
import java.util.Set;
import java.util.TreeSet;
import java.util.regex.Matcher;
import java.util.regex.Pattern;

/** The rules of LANGUAGE.md, as far as the text of the program and its classes show them. */
public final class LanguageTest {
    private static final Path PROGRAM = Path.of("src/main/java/Kneadery.java");
    private static final int MOST_LINES = 60;
    /** The first line of a method, of the class itself or of one inside. */
    private static final Pattern METHOD =
            Pattern.compile("( {4}| {8})(?! |if|for|while|switch|do|else|return|throw|\\})[\\w<>\\[\\] ]+\\([^;=]*");
    private static int wrong;

    public static void main(String[] args) throws IOException {
        String text = Files.readString(PROGRAM, StandardCharsets.ISO_8859_1);
        String code = withoutTexts(text);
        List<Class<?>> classes = new ArrayList<>(Arrays.asList(Kneadery.class.getDeclaredClasses()));
        noneBeyond(3, text, "[^\\x00-\\x7f]", Set.of());
        members(classes);
        words(code);
        library(code);
        exceptions(text, code);
        sizes(code, classes);
        System.out.println(wrong + " rules are broken");
        if (wrong != 0) {
            System.exit(1);
        }
    }

    private static void tell(int rule, String what) {
        wrong++;
        System.out.println("rule " + rule + ": " + what);
    }

    /** Without comments, and without what stands in texts and signs. */
    private static String withoutTexts(String text) {
        return text.replaceAll("\"[^\"\n]*\"", "\"\"").replaceAll("'[^'\n]*'", "' '").replaceAll("(?s)/\\*.*?\\*/", "")
                .replaceAll("//[^\n]*", "");
    }

    /** Whatever fits the pattern, by its first group if it has one, is among what is allowed. */
    private static void noneBeyond(int rule, String text, String pattern, Set<String> allowed) {
        Matcher found = Pattern.compile(pattern).matcher(text);
        while (found.find()) {
            String what = found.group(found.groupCount() > 0 ? 1 : 0);
            if (!allowed.contains(what)) {
                tell(rule, what);
            }
        }
    }

    /** Rules 1, 2 and 5. */
    private static void members(List<Class<?>> classes) {
        Set<String> face = new TreeSet<>();
        for (Method m : Kneadery.class.getDeclaredMethods()) {
            if (Modifier.isPublic(m.getModifiers())) {
                face.add(m.getName());
            }
        }
        List<Class<?>> all = new ArrayList<>(classes);
        all.add(Kneadery.class);
        for (Class<?> one : all) {
            for (Method m : one.getDeclaredMethods()) {
                if (Modifier.isPrivate(m.getModifiers()) && face.contains(m.getName())) {
                    tell(1, "a private method bears the name of a public one: " + m);
                }
            }
            for (Field f : one.getDeclaredFields()) {
                if (Modifier.isStatic(f.getModifiers()) && !Modifier.isFinal(f.getModifiers())) {
                    tell(5, "a static field that is not final: " + f);
                }
            }
        }
        for (Class<?> one : classes) {
            int m = one.getModifiers();
            if (Modifier.isPublic(m) || Modifier.isProtected(m) || !Modifier.isStatic(m)) {
                tell(1, "a class inside is public, protected or not static: " + one);
            }
        }
    }

    /** Rules 2, 6, 10 and 13: words and signs that do not stand in the program. */
    private static void words(String code) {
        noneBeyond(2, code, "->|::|@\\w+|\\bpackage\\b", Set.of());
        noneBeyond(5, code, "\\bstatic\\s*\\{", Set.of());
        noneBeyond(6, code, "\\b(try|catch|finally|assert|synchronized)\\b", Set.of());
        noneBeyond(6, code, "\\b(equals|hashCode|toString|getMessage)\\b", Set.of());
        noneBeyond(10, code, "\"\"\\s*\\+|\\+\\s*\"\"", Set.of());
        noneBeyond(13, code, "\\b(System|Thread|Random|Runtime|File|Files|Class|Object|volatile|native)\\b", Set.of());
    }

    /** Rule 4; those whose name ends in Exact are not among them. */
    private static void library(String code) {
        noneBeyond(4, code, "import ([\\w.*]+);", Set.of("java.util.ArrayList"));
        noneBeyond(4, code, "\\bMath\\.(\\w+)", Set.of("abs", "min", "max", "floorDiv", "floorMod"));
        noneBeyond(4, code, "\\b(?:Integer|Long)\\.(\\w+)", Set.of("compare", "bitCount", "min", "max"));
        noneBeyond(4, code, "\\b(String|StringBuilder|List|Arrays|Iterator)\\b", Set.of());
        noneBeyond(4, code, "\\b(Character|Boolean|Double|Float|var)\\b", Set.of());
    }

    /** Rule 6. */
    private static void exceptions(String text, String code) {
        noneBeyond(6, code, "\\bthrow (?!new )(\\w+)", Set.of());
        noneBeyond(6, code, "\\bthrow new (\\w+)",
                Set.of("IllegalStateException", "IllegalArgumentException", "IndexOutOfBoundsException"));
        noneBeyond(6, text, "\\bthrow new \\w+(?!\\((?:\"[\\w ]+\")?\\);)\\(", Set.of());
    }

    /** Rule 11. */
    private static void sizes(String code, List<Class<?>> classes) {
        if (classes.size() + 1 > 12) {
            tell(11, "there are " + (classes.size() + 1) + " classes");
        }
        for (Class<?> one : classes) {
            fewFieldsAndParameters(one);
        }
        fewFieldsAndParameters(Kneadery.class);
        shortMethods(code.split("\n"));
    }

    private static void shortMethods(String[] lines) {
        for (int i = 0; i < lines.length; i++) {
            Matcher head = METHOD.matcher(lines[i]);
            if (head.matches()) {
                int last = i;
                while (last < lines.length && !lines[last].equals(head.group(1) + "}")) {
                    last++;
                }
                if (last - i >= MOST_LINES) {
                    tell(11, "a method is longer than " + MOST_LINES + " lines: " + lines[i].strip());
                }
            }
        }
    }

    private static void fewFieldsAndParameters(Class<?> one) {
        int fields = 0;
        for (Field f : one.getDeclaredFields()) {
            fields += Modifier.isStatic(f.getModifiers()) ? 0 : 1;
        }
        if (fields > 20) {
            tell(11, one + " has " + fields + " fields");
        }
        for (Method m : one.getDeclaredMethods()) {
            if (m.getParameterCount() > 7) {
                tell(11, m + " takes more than seven parameters");
            }
        }
    }
}
