import java.lang.reflect.Array;
import java.lang.reflect.Constructor;
import java.lang.reflect.Field;
import java.lang.reflect.Method;
import java.lang.reflect.Modifier;
import java.nio.file.Files;
import java.nio.file.Path;
import java.util.ArrayList;
import java.util.IdentityHashMap;
import java.util.List;
import java.util.Map;
import java.util.Set;
import java.util.TreeSet;
import java.util.regex.Matcher;
import java.util.regex.Pattern;

/** The face of the document, and those rules of LANGUAGE.md that can be seen without a proof. Run from the project's folder. */
public final class LanguageTest {
    private static final Path SOURCE = Path.of("src/main/java/PascalRows.java");
    private static final Path DOCUMENT = Path.of("../shared/DOC.md");
    private static final String[] FORBIDDEN = {"throw", "throws", "try", "catch", "synchronized", "assert", "import", "package",
        "->", "::", "Exact", "float", "double", "protected", "volatile", "transient", "native", "strictfp", "Object", "null;"};
    private static final int MOST_LINES_OF_A_METHOD = 60;

    private static int wrong = 0;

    public static void main(String[] args) throws Exception {
        String source = Files.readString(SOURCE);
        face(Files.readString(DOCUMENT));
        headings(Files.readString(DOCUMENT), source);
        names();
        statics();
        words(withoutComments(source));
        lengths(source);
        arrays(withoutComments(source));
        room();
        System.out.println(wrong == 0 ? "the language's rules are kept" : wrong + " rules are not kept");
        if (wrong != 0) {
            System.exit(1);
        }
    }

    private static void check(boolean right, String rule) {
        if (!right) {
            wrong++;
            System.out.println("not kept: " + rule);
        }
    }

    private static String withoutComments(String source) {
        return source.replaceAll("(?s)/\\*.*?\\*/", "").replaceAll("//[^\n]*", "");
    }

    private static void face(String document) {
        String block = document.substring(document.indexOf("```java"), document.indexOf("}\n```"));
        Set<String> due = new TreeSet<>();
        Matcher method = Pattern.compile("public (int|long) (\\w+)\\(([^)]*)\\);").matcher(block);
        while (method.find()) {
            due.add(method.group(1) + " " + method.group(2) + "(" + method.group(3).replaceAll("(int|long) \\w+", "$1") + ")");
        }
        Set<String> there = new TreeSet<>();
        for (Method m : PascalRows.class.getDeclaredMethods()) {
            if (Modifier.isPrivate(m.getModifiers())) {
                continue;
            }
            check(Modifier.isPublic(m.getModifiers()) && !Modifier.isStatic(m.getModifiers()), m + " is public");
            List<String> types = new ArrayList<>();
            for (Class<?> type : m.getParameterTypes()) {
                types.add(type.toString());
            }
            there.add(m.getReturnType() + " " + m.getName() + "(" + String.join(", ", types) + ")");
        }
        check(due.size() == 37, "the document's face is read whole");
        check(due.equals(there), "the methods are the document's: " + there);
        check(Modifier.isFinal(PascalRows.class.getModifiers()), "the class is final");
        check(PascalRows.class.getDeclaredConstructors().length == 1, "one constructor");
        check(PascalRows.class.getConstructors().length == 1, "the constructor is public");
        Set<String> constants = new TreeSet<>();
        for (Field f : PascalRows.class.getDeclaredFields()) {
            if (!Modifier.isPrivate(f.getModifiers())) {
                check(Modifier.isPublic(f.getModifiers()) && Modifier.isFinal(f.getModifiers()), f + " is public and final");
                constants.add(f.getType() + " " + f.getName());
            }
        }
        check(constants.equals(Set.of("int NONE", "int BAD", "int STATE", "int FULL", "long NO")), "the constants: " + constants);
    }

    /** What the interface says ahead of some calls stands ahead of them in the class, too. */
    private static void headings(String document, String source) {
        Matcher heading = Pattern.compile("Ahead of the calls (.*) the interface says: (---- .*)\\.").matcher(document);
        int headings = 0;
        while (heading.find()) {
            int begin = source.indexOf("// " + heading.group(2) + "\n");
            int end = source.indexOf("// ----", begin + 1);
            check(begin >= 0 && end > begin, "the class has the heading " + heading.group(2));
            Matcher call = Pattern.compile("`(\\w+)`").matcher(heading.group(1));
            while (call.find() && begin >= 0 && end > begin) {
                check(source.substring(begin, end).matches("(?s).*\n    public (int|long) " + call.group(1) + "\\(.*"), call.group(1) + " stands below " + heading.group(2));
            }
            headings++;
        }
        check(headings == 7, "the document's headings are read whole: " + headings);
    }

    private static void names() {
        Set<String> open = new TreeSet<>();
        for (Method m : PascalRows.class.getMethods()) {
            open.add(m.getName());
        }
        for (Method m : PascalRows.class.getDeclaredMethods()) {
            check(Modifier.isPublic(m.getModifiers()) || !open.contains(m.getName()), m + " bears no public name");
            check(m.getParameterCount() <= 7, m + " takes seven parameters at most");
        }
        for (Class<?> inside : PascalRows.class.getDeclaredClasses()) {
            check(Modifier.isStatic(inside.getModifiers()), inside + " is static");
            check(!Modifier.isPublic(inside.getModifiers()), inside + " is not public");
            for (Method m : inside.getDeclaredMethods()) {
                check(!open.contains(m.getName()), m + " bears no public name");
            }
        }
        check(PascalRows.class.getDeclaredClasses().length <= 12, "twelve classes at most");
    }

    private static void statics() {
        List<Class<?>> classes = new ArrayList<>(List.of(PascalRows.class.getDeclaredClasses()));
        classes.add(PascalRows.class);
        for (Class<?> one : classes) {
            int fields = 0;
            for (Field f : one.getDeclaredFields()) {
                boolean isStatic = Modifier.isStatic(f.getModifiers());
                check(!isStatic || Modifier.isFinal(f.getModifiers()), f + " is final");
                fields += isStatic ? 0 : 1;
            }
            check(fields <= 20, one + " has twenty fields at most");
        }
    }

    private static void words(String code) {
        for (String word : FORBIDDEN) {
            String edge = Character.isLetter(word.charAt(0)) && !word.equals("Exact") ? "\\b" : "";
            String end = word.endsWith(";") || edge.isEmpty() ? "" : "\\b";
            check(!Pattern.compile(edge + Pattern.quote(word) + end).matcher(code).find(), "no " + word);
        }
        check(code.chars().allMatch(c -> c < 127), "signs below 127");
        check(!code.contains("\""), "no texts are needed");
        // What calls make would pile up in the room of a run: all is made with the object.
        for (String line : code.split("\n")) {
            if (Pattern.compile("\\bnew\\b").matcher(line).find()) {
                check(line.matches("    +private final .*|            numbers = new int.*"), "made with the object: " + line.trim());
            }
        }
        Matcher library = Pattern.compile("\\b(System|Math|Integer|Long|Arrays|String|List|ArrayList)\\.(\\w+)").matcher(code);
        Set<String> allowed = Set.of("System.arraycopy", "Math.min", "Math.max", "Integer.bitCount", "Long.MIN_VALUE");
        while (library.find()) {
            check(allowed.contains(library.group()), library.group() + " is in the library's part");
        }
    }

    private static void lengths(String source) {
        int lines = 0;
        for (String line : source.split("\n")) {
            boolean opens = line.matches("(    |        )(public|private|static|[a-zA-Z]+ [a-z]\\w*\\(|[A-Z]\\w*\\().*\\{") && !line.contains(" class ");
            lines = opens ? 0 : lines + 1;
            if (line.equals("    }") || line.equals("        }")) {
                check(lines <= MOST_LINES_OF_A_METHOD, "methods of sixty lines at most");
                lines = 0;
            }
        }
    }

    /** Each index in the source is a name or a sum, none is counted up within its brackets. */
    private static void arrays(String code) {
        Matcher index = Pattern.compile("\\w\\[([^\\]]*)\\]").matcher(code);
        while (index.find()) {
            check(!index.group(1).contains("++") && !index.group(1).contains("--"), "index " + index.group());
        }
    }

    /** A run may make as many objects as it has calls: 512 of them take a third of the room at most. */
    private static void room() throws Exception {
        PascalRows x = new PascalRows();
        long[] seen = new long[2];
        measure(x, new IdentityHashMap<>(), seen);
        check(seen[0] * 512 <= 200_000, "objects: " + seen[0]);
        check(seen[1] * 512 <= 2_600_000, "fields and elements: " + seen[1]);
    }

    private static void measure(Object one, Map<Object, Boolean> known, long[] seen) throws Exception {
        if (one == null || known.put(one, true) != null) {
            return;
        }
        seen[0]++;
        Class<?> type = one.getClass();
        if (type.isArray()) {
            seen[1] += Array.getLength(one);
            return;
        }
        for (Field f : type.getDeclaredFields()) {
            if (!Modifier.isStatic(f.getModifiers())) {
                seen[1]++;
                f.setAccessible(true);
                if (!f.getType().isPrimitive()) {
                    measure(f.get(one), known, seen);
                }
            }
        }
        for (Constructor<?> c : type.getDeclaredConstructors()) {
            check(c.getParameterCount() <= 7, c + " takes seven parameters at most");
        }
    }
}
