import java.io.DataInputStream;
import java.io.IOException;
import java.io.InputStream;
import java.util.ArrayList;
import java.util.HashMap;
import java.util.List;
import java.util.Map;
import java.util.Set;
import java.util.TreeSet;

/** Those rules of LANGUAGE.md that can be seen in the compiled classes: what is called, how deep, what is made and where. */
public final class CallsTest {
    private static final String CLASS = "PascalRows";
    private static final int MOST_DEEP = 8;
    /** What the class takes of rule 4's library. */
    private static final Set<String> LIBRARY = Set.of("java/lang/Object.<init>:()V", "java/lang/Math.max:(II)I", "java/lang/Math.min:(II)I",
        "java/lang/Integer.bitCount:(I)I", "java/lang/System.arraycopy:(Ljava/lang/Object;ILjava/lang/Object;II)V");
    /** Each is told by a rule: 6 throw, synchronized; 2 and 10 lambdas, texts joined by +. */
    private static final Map<Integer, String> FORBIDDEN = Map.of(0xbf, "throw (rule 6)", 0xc2, "synchronized (rule 6)", 0xc3, "synchronized (rule 6)",
        0xba, "lambdas or texts joined by + (rules 2 and 10)", 0xc5, "arrays of more dimensions than one (rule 3)");
    private static final Set<Integer> MAKERS = Set.of(0xbb, 0xbc, 0xbd, 0xc5);

    private static final Map<String, Set<String>> CALLED = new HashMap<>();
    private static final Map<String, Integer> DEPTHS = new HashMap<>();
    private static int wrong = 0;

    public static void main(String[] args) throws IOException {
        List<String> classes = new ArrayList<>(List.of(CLASS));
        for (Class<?> inside : PascalRows.class.getDeclaredClasses()) {
            classes.add(inside.getName());
        }
        for (String name : classes) {
            try (InputStream file = PascalRows.class.getResourceAsStream(name + ".class")) {
                read(new DataInputStream(file));
            }
        }
        // 37 calls and the constructor, and at least one method of each class inside.
        check(CALLED.size() >= 38 + classes.size() - 1, "the classes are read whole: " + CALLED.size());
        int deepest = 0;
        for (String method : CALLED.keySet()) {
            deepest = Math.max(deepest, depthOf(method, new ArrayList<>()));
        }
        check(deepest >= 2 && deepest <= MOST_DEEP, "calls go at most " + MOST_DEEP + " deep (rule 11): " + deepest);
        System.out.println(wrong == 0 ? "the calls keep to the language, and go " + deepest + " deep" : wrong + " rules are not kept");
        if (wrong != 0) {
            System.exit(1);
        }
    }

    private static void check(boolean right, String rule) {
        if (!right) {
            wrong++;
            System.out.println("not kept: " + rule);
        }
    }

    /** How many calls stand open behind a call of this method, itself counted. */
    private static int depthOf(String method, List<String> open) {
        if (open.contains(method)) {
            check(false, "no recursion is needed (rule 8): " + open + ", " + method);
            return MOST_DEEP + 1;
        }
        if (!DEPTHS.containsKey(method)) {
            open.add(method);
            int deepest = 0;
            for (String called : CALLED.getOrDefault(method, Set.of())) {
                deepest = Math.max(deepest, depthOf(called, open));
            }
            open.remove(method);
            DEPTHS.put(method, deepest + 1);
        }
        return DEPTHS.get(method);
    }

    // ---- a class file, as the Java Virtual Machine Specification tells it (chapter 4)

    private static void read(DataInputStream in) throws IOException {
        check(in.readInt() == 0xcafebabe, "a class file");
        in.readInt();
        String[] pool = poolOf(in);
        in.readUnsignedShort();
        String name = pool[in.readUnsignedShort()];
        in.readUnsignedShort();
        skip(in, 2 * in.readUnsignedShort());
        int fields = in.readUnsignedShort();
        for (int i = 0; i < fields; i++) {
            skip(in, 6);
            skipAttributes(in);
        }
        int methods = in.readUnsignedShort();
        for (int i = 0; i < methods; i++) {
            in.readUnsignedShort();
            readMethod(in, pool, name + "." + pool[in.readUnsignedShort()] + ":" + pool[in.readUnsignedShort()]);
        }
    }

    /** Constants as texts: names as they are, a method as its class, name and type. */
    private static String[] poolOf(DataInputStream in) throws IOException {
        int size = in.readUnsignedShort();
        String[] pool = new String[size];
        int[][] links = new int[size][];
        for (int i = 1; i < size; i++) {
            int tag = in.readUnsignedByte();
            switch (tag) {
                case 1: pool[i] = in.readUTF(); break;
                case 3: case 4: in.readInt(); break;
                case 5: case 6: in.readLong(); i++; break;
                case 7: case 8: case 16: case 19: case 20: links[i] = new int[] {tag, in.readUnsignedShort()}; break;
                case 9: case 10: case 11: case 12: case 17: case 18: links[i] = new int[] {tag, in.readUnsignedShort(), in.readUnsignedShort()}; break;
                case 15: skip(in, 3); break;
                default: throw new IOException("no constant has the tag " + tag);
            }
        }
        // A method links to a name and a type, and both to texts: texts first.
        for (int round = 0; round < 3; round++) {
            for (int i = 1; i < size; i++) {
                if (links[i] != null) {
                    String second = links[i].length < 3 ? "" : (links[i][0] == 12 ? ":" : ".") + pool[links[i][2]];
                    pool[i] = pool[links[i][1]] + second;
                }
            }
        }
        return pool;
    }

    /** skipBytes() may stop early. */
    private static void skip(DataInputStream in, int bytes) throws IOException {
        in.readFully(new byte[bytes]);
    }

    private static void skipAttributes(DataInputStream in) throws IOException {
        int attributes = in.readUnsignedShort();
        for (int i = 0; i < attributes; i++) {
            in.readUnsignedShort();
            skip(in, in.readInt());
        }
    }

    private static void readMethod(DataInputStream in, String[] pool, String method) throws IOException {
        int attributes = in.readUnsignedShort();
        for (int i = 0; i < attributes; i++) {
            boolean isCode = "Code".equals(pool[in.readUnsignedShort()]);
            int length = in.readInt();
            if (!isCode) {
                skip(in, length);
                continue;
            }
            in.readInt();
            byte[] code = new byte[in.readInt()];
            in.readFully(code);
            int caught = in.readUnsignedShort();
            check(caught == 0, "nothing is caught (rule 6): " + method);
            skip(in, 8 * caught);
            skipAttributes(in);
            readCode(code, pool, method);
        }
    }

    private static void readCode(byte[] code, String[] pool, String method) {
        Set<String> called = new TreeSet<>();
        CALLED.put(method, called);
        for (int at = 0; at < code.length; at += lengthOf(code, at)) {
            int sort = code[at] & 255;
            check(!FORBIDDEN.containsKey(sort), "no " + FORBIDDEN.get(sort) + ": " + method);
            check(!MAKERS.contains(sort) || method.contains(".<init>:") || method.contains(".<clinit>:"), "all is made with the object (rule 12): " + method);
            if (sort >= 0xb6 && sort <= 0xb9) {
                String other = pool[(code[at + 1] & 255) << 8 | code[at + 2] & 255];
                boolean isOwn = other.startsWith(CLASS + ".") || other.startsWith(CLASS + "$");
                check(isOwn || LIBRARY.contains(other), other + " is in the library's part (rule 4): " + method);
                if (isOwn) {
                    called.add(other);
                }
            }
        }
    }

    /** How many bytes an instruction takes (chapter 6). */
    private static int lengthOf(byte[] code, int at) {
        int sort = code[at] & 255;
        if (sort == 0xaa || sort == 0xab) {
            int start = at + 4 - at % 4;
            int cases = sort == 0xaa ? intAt(code, start + 8) - intAt(code, start + 4) + 1 : 2 * intAt(code, start + 4);
            return start + (sort == 0xaa ? 12 : 8) + 4 * cases - at;
        }
        if (sort == 0xc4) {
            return (code[at + 1] & 255) == 0x84 ? 6 : 4;
        }
        if (sort >= 0xb9 && sort <= 0xba || sort >= 0xc8) {
            return 5;
        }
        if (sort == 0xc5) {
            return 4;
        }
        boolean takesTwo = sort == 0x11 || sort == 0x13 || sort == 0x14 || sort == 0x84 || sort >= 0x99 && sort <= 0xa8 || sort >= 0xb2 && sort <= 0xb8
            || sort == 0xbb || sort == 0xbd || sort == 0xc0 || sort == 0xc1 || sort >= 0xc6;
        boolean takesOne = sort == 0x10 || sort == 0x12 || sort >= 0x15 && sort <= 0x19 || sort >= 0x36 && sort <= 0x3a || sort == 0xa9 || sort == 0xbc;
        return takesTwo ? 3 : takesOne ? 2 : 1;
    }

    private static int intAt(byte[] code, int at) {
        return (code[at] & 255) << 24 | (code[at + 1] & 255) << 16 | (code[at + 2] & 255) << 8 | code[at + 3] & 255;
    }
}
