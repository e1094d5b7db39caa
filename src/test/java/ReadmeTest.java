import java.io.IOException;
import java.lang.reflect.Method;
import java.nio.file.Files;
import java.nio.file.Path;
import java.util.regex.Matcher;
import java.util.regex.Pattern;

/** Makes the calls of README.md's example and compares the answers that its comments tell. */
public final class ReadmeTest {
    private static final Pattern CALL =
            Pattern.compile("truss\\.(\\w+)\\((.*?)\\); *// (.*)|truss\\.(\\w+)\\((.*?)\\);");
    /** A comment that tells an answer begins with it, or says "over" it, or ends with it. */
    private static final Pattern ANSWER =
            Pattern.compile("^(-?\\d+)(?!\\w)|^\\.\\.\\. over (\\d+)$|answers its number, (\\d+)$");

    private static int calls = 0;
    private static int answers = 0;
    private static int wrong = 0;

    private ReadmeTest() {
    }

    public static void main(String[] args) throws Exception {
        TrussSolver truss = new TrussSolver();
        for (String line : exampleOf(Files.readString(Path.of("README.md"))).split("\n")) {
            Matcher call = CALL.matcher(line);
            if (call.matches()) {
                boolean told = call.group(1) != null;
                long got = answerOf(truss, call.group(told ? 1 : 4), call.group(told ? 2 : 5));
                compare(line, got, told ? call.group(3) : "");
            }
        }
        System.out.println(calls + " calls, " + answers + " answers told, " + wrong
                + " not as due");
        // A pattern that finds nothing would pass anything.
        if (wrong != 0 || calls < 10 || answers < 6) {
            System.exit(1);
        }
    }

    private static String exampleOf(String readme) throws IOException {
        int start = readme.indexOf("```java\n");
        int end = readme.indexOf("```\n", start + 1);
        if (start < 0 || end < 0) {
            throw new IOException("README.md has no example");
        }
        return readme.substring(start, end);
    }

    private static long answerOf(TrussSolver truss, String name, String arguments)
            throws ReflectiveOperationException {
        String[] words = arguments.isEmpty() ? new String[0] : arguments.split(", *");
        for (Method method : TrussSolver.class.getDeclaredMethods()) {
            if (method.getName().equals(name)) {
                calls++;
                return ((Number) method.invoke(truss, valuesOf(words))).longValue();
            }
        }
        throw new NoSuchMethodException(name);
    }

    private static Object[] valuesOf(String[] words) {
        Object[] values = new Object[words.length];
        for (int i = 0; i < words.length; i++) {
            boolean isTruth = words[i].equals("true") || words[i].equals("false");
            values[i] = isTruth ? (Object) Boolean.valueOf(words[i]) : Integer.decode(words[i]);
        }
        return values;
    }

    private static void compare(String line, long got, String comment) {
        Matcher answer = ANSWER.matcher(comment);
        long due = 0;
        if (answer.find()) {
            answers++;
            for (int group = 1; group <= answer.groupCount(); group++) {
                due = answer.group(group) == null ? due : Long.parseLong(answer.group(group));
            }
        }
        if (got != due) {
            wrong++;
            System.out.println("README.md: " + line + " answered " + got + ", due is " + due);
        }
    }
}
