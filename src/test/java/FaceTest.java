import java.io.IOException;
import java.lang.reflect.Constructor;
import java.lang.reflect.Field;
import java.lang.reflect.Method;
import java.lang.reflect.Modifier;
import java.nio.charset.StandardCharsets;
import java.nio.file.Files;
import java.nio.file.Path;
import java.util.Arrays;
import java.util.List;
import java.util.Set;
import java.util.TreeSet;
import java.util.regex.Pattern;

/**
 * The public face of the class, word for word, and those rules of LANGUAGE.md that can be seen from
 * its members or from its text. The argument is the path of the program's source.
 */
public final class FaceTest {
    private static final List<String> CONSTANTS = List.of("int DONE = 0", "int REFUSED = -1",
            "int TAKEN = -2", "int FULL = -3", "int SEALED = -4",
            "long NONE = -4000000000000000000");
    private static final List<String> METHODS = List.of("int node(int, int, int)",
            "int bar(int, int, int)", "int unbar(int)", "int hold(int, int, boolean, int)",
            "int spring(int, int, int)", "int load(int, int, int, int)", "int solve()",
            "int open()", "long displacement(int, int, int, int)", "long force(int, int, int)",
            "long reaction(int, int, int, int)", "long combined(int, int, int, int)",
            "long determinant()", "int order(int)", "int unknown(int, int)", "int count(int)");
    private static final List<String> FORBIDDEN = List.of("throw", "throws", "try", "catch",
            "synchronized", "assert", "package");
    private static int wrong = 0;

    public static void main(String[] args) throws IOException, IllegalAccessException {
        checkClass();
        checkConstants();
        checkMethods();
        checkNestedClasses();
        String source = args.length > 0 ? args[0] : "src/main/java/TrussSolver.java";
        checkText(Files.readString(Path.of(source), StandardCharsets.UTF_8));
        System.out.println(wrong == 0 ? "the face is as due" : wrong + " faults");
        if (wrong != 0) {
            System.exit(1);
        }
    }

    private static void check(boolean holds, String otherwise) {
        if (!holds) {
            wrong++;
            System.out.println(otherwise);
        }
    }

    private static void checkClass() {
        int modifiers = TrussSolver.class.getModifiers();
        check(Modifier.isPublic(modifiers) && Modifier.isFinal(modifiers), "not public and final");
        Constructor<?>[] constructors = TrussSolver.class.getDeclaredConstructors();
        check(constructors.length == 1 && constructors[0].getParameterCount() == 0
                && Modifier.isPublic(constructors[0].getModifiers()), "not one public constructor");
    }

    private static void checkConstants() throws IllegalAccessException {
        Set<String> found = new TreeSet<>();
        for (Field field : TrussSolver.class.getDeclaredFields()) {
            int modifiers = field.getModifiers();
            if (Modifier.isPublic(modifiers) && Modifier.isStatic(modifiers)
                    && Modifier.isFinal(modifiers)) {
                found.add(field.getType() + " " + field.getName() + " = " + field.get(null));
            } else {
                check(Modifier.isPrivate(modifiers), "field is not private: " + field);
            }
            check(!Modifier.isStatic(modifiers) || Modifier.isFinal(modifiers),
                    "static field is not final: " + field);
        }
        check(found.equals(new TreeSet<>(CONSTANTS)), "constants are " + found);
    }

    private static void checkMethods() {
        Set<String> found = new TreeSet<>();
        Set<String> names = new TreeSet<>();
        for (Method method : TrussSolver.class.getDeclaredMethods()) {
            if (Modifier.isPublic(method.getModifiers())) {
                names.add(method.getName());
                String types = Arrays.toString(method.getParameterTypes());
                found.add(method.getReturnType() + " " + method.getName() + "("
                        + types.substring(1, types.length() - 1) + ")");
                check(!Modifier.isStatic(method.getModifiers()), "method is static: " + method);
            } else {
                check(Modifier.isPrivate(method.getModifiers()), "method not private: " + method);
            }
        }
        check(found.equals(new TreeSet<>(METHODS)), "methods are " + found);
        for (Method method : TrussSolver.class.getDeclaredMethods()) {
            check(Modifier.isPublic(method.getModifiers()) || !names.contains(method.getName()),
                    "bears a public name: " + method);
        }
    }

    private static void checkNestedClasses() {
        for (Class<?> one : TrussSolver.class.getDeclaredClasses()) {
            check(Modifier.isStatic(one.getModifiers()) && !Modifier.isPublic(one.getModifiers())
                    && !Modifier.isProtected(one.getModifiers()), "not static and hidden: " + one);
        }
    }

    private static void checkText(String text) {
        String code = text.replaceAll("(?s)/\\*.*?\\*/", "").replaceAll("//[^\n]*", "");
        for (String forbidden : FORBIDDEN) {
            check(!Pattern.compile("\\b" + forbidden + "\\b").matcher(code).find(),
                    "the program's text has " + forbidden);
        }
    }
}
