import java.io.IOException;
import java.lang.reflect.InvocationTargetException;
import java.lang.reflect.Method;
import java.nio.file.DirectoryStream;
import java.nio.file.Files;
import java.nio.file.Path;
import java.util.Map;
import java.util.regex.Matcher;
import java.util.regex.Pattern;

/** That README.md says how the class is used and which tests there are, as both stand now. Run from the project's folder. */
public final class ReadmeTest {
    private static final Pattern CALL = Pattern.compile("x\\.(\\w+)\\(([^)]*)\\); *// (-?\\d+|NONE|NO)\\b.*");
    private static final Map<String, Long> NAMES = Map.of("NONE", -1L, "NO", Long.MIN_VALUE);

    private static int wrong = 0;

    public static void main(String[] args) throws IOException, ReflectiveOperationException {
        String page = Files.readString(Path.of("README.md"));
        examples(page);
        check(page.contains("512 calls"), "it says how long an object may be used");
        check(page.contains(".ci/run"), "it says how the tests are run");
        try (DirectoryStream<Path> tests = Files.newDirectoryStream(Path.of("src/test/java"), "*Test.java")) {
            for (Path test : tests) {
                String name = test.getFileName().toString().replace(".java", "");
                check(page.contains("`" + name + "`"), "it names " + name);
            }
        }
        System.out.println(wrong == 0 ? "README.md is as all stands" : wrong + " faults of README.md");
        if (wrong != 0) {
            System.exit(1);
        }
    }

    private static void check(boolean right, String what) {
        if (!right) {
            wrong++;
            System.out.println("not so: " + what);
        }
    }

    private static void examples(String page) throws ReflectiveOperationException {
        int begin = page.indexOf("```java") + 7;
        PascalRows x = null;
        int calls = 0;
        for (String line : page.substring(begin, page.indexOf("```", begin)).strip().split("\n+")) {
            Matcher call = CALL.matcher(line);
            if (line.startsWith("PascalRows x = new PascalRows();")) {
                x = new PascalRows();
            } else if (call.matches() && x != null) {
                String due = call.group(3);
                check(answer(x, call.group(1), call.group(2).split(", *")) == (NAMES.containsKey(due) ? NAMES.get(due) : Long.parseLong(due)), line);
                calls++;
            } else {
                check(false, "a line that is no call: " + line);
            }
        }
        check(calls > 20, "there are examples: " + calls);
    }

    private static long answer(PascalRows x, String name, String[] given) throws IllegalAccessException, InvocationTargetException {
        for (Method m : PascalRows.class.getDeclaredMethods()) {
            if (m.getName().equals(name)) {
                Class<?>[] types = m.getParameterTypes();
                Object[] numbers = new Object[types.length];
                for (int i = 0; i < types.length; i++) {
                    long number = given[i].startsWith("'") ? given[i].charAt(1) : Long.parseLong(given[i]);
                    numbers[i] = types[i] == long.class ? (Object) number : (Object) (int) number;
                }
                return ((Number) m.invoke(x, numbers)).longValue();
            }
        }
        check(false, "there is a call " + name);
        return 0;
    }
}
