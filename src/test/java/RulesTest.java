import java.io.DataInputStream;
import java.io.IOException;
import java.io.InputStream;
import java.nio.file.Files;
import java.nio.file.Path;
import java.util.ArrayDeque;
import java.util.ArrayList;
import java.util.Arrays;
import java.util.Deque;
import java.util.HashMap;
import java.util.List;
import java.util.Map;
import java.util.Set;
import java.util.TreeMap;
import java.util.TreeSet;

/** LANGUAGE.md, as far as the compiled class and its text show it: what is called, how deep, how long, how many. */
public final class RulesTest {
    private static final Set<String> LIBRARY = Set.of("java/lang/Object.<init>()V",
        "java/lang/IndexOutOfBoundsException.<init>(Ljava/lang/String;)V", "java/util/NoSuchElementException.<init>(Ljava/lang/String;)V",
        "java/lang/System.arraycopy(Ljava/lang/Object;ILjava/lang/Object;II)V", "java/util/Arrays.fill([II)V",
        "java/util/Arrays.fill([JJ)V", "java/util/Arrays.copyOf([JI)[J", "java/util/Arrays.copyOf([II)[I", "java/lang/Math.abs(I)I",
        "java/lang/Math.max(II)I", "java/lang/Math.min(II)I", "java/lang/Math.floorDiv(II)I", "java/lang/Math.floorMod(II)I");
    private static final int DEEPEST = 8;
    private static final int LONGEST = 60;

    /** Each method's calls, by its full name. */
    private static final Map<String, Set<String>> CALLS = new TreeMap<>();
    private static final Map<String, Integer> DEPTHS = new HashMap<>();
    private static final Deque<String> OPEN = new ArrayDeque<>();

    public static void main(String[] args) throws IOException {
        List<Class<?>> classes = new ArrayList<>(Arrays.asList(SixJoints.class.getDeclaredClasses()));
        classes.add(SixJoints.class);
        Check.due("classes " + classes.size(), classes.size() <= 12, true);
        for (Class<?> c : classes) {
            shape(c);
            try (InputStream in = RulesTest.class.getResourceAsStream("/" + c.getName() + ".class")) {
                new Compiled(new DataInputStream(in)).read();
            }
        }
        for (java.lang.reflect.Method m : SixJoints.class.getDeclaredMethods()) {
            if (java.lang.reflect.Modifier.isPublic(m.getModifiers())) {
                for (String name : CALLS.keySet()) {
                    if (name.startsWith("SixJoints." + m.getName() + "(")) {
                        Check.due(name + " goes " + depth(name) + " deep", depth(name) <= DEEPEST, true);
                    }
                }
            }
        }
        text();
        Check.end("RulesTest");
    }

    // rule 11: parameters and fields
    private static void shape(Class<?> c) {
        for (java.lang.reflect.Method m : c.getDeclaredMethods()) {
            Check.due(m + " takes seven at most", m.getParameterCount() <= 7, true);
        }
        int fields = 0;
        for (java.lang.reflect.Field f : c.getDeclaredFields()) {
            boolean fixed = java.lang.reflect.Modifier.isStatic(f.getModifiers());
            fields += fixed ? 0 : 1;
            Check.due(f + ", if static, is final", !fixed || java.lang.reflect.Modifier.isFinal(f.getModifiers()), true);
        }
        Check.due(c + " has " + fields + " fields", fields <= 20, true);
    }

    /** How many calls stand open at once from a method on; those that call themselves are told. */
    private static int depth(String method) {
        if (DEPTHS.containsKey(method)) {
            return DEPTHS.get(method);
        }
        Check.due(method + " calls itself", OPEN.contains(method), false);
        if (OPEN.contains(method)) {
            return 0;
        }
        OPEN.push(method);
        int deepest = 0;
        for (String called : CALLS.getOrDefault(method, Set.of())) {
            deepest = Math.max(deepest, depth(called));
        }
        OPEN.pop();
        DEPTHS.put(method, deepest + 1);
        return deepest + 1;
    }

    // words that no rule lets stand in the text, behind comments and written texts are taken out
    private static void text() throws IOException {
        String text = Files.readString(Path.of("src/main/java/SixJoints.java"));
        String bare = text.replaceAll("(?s)/\\*.*?\\*/", " ").replaceAll("//[^\n]*", " ").replaceAll("\"[^\"\n]*\"", "\"\"");
        for (String word : new String[] {"synchronized", "assert", "finally", "try", "catch", "volatile", "transient", "native",
            "instanceof", "protected", "double", "float", "var", "yield", "sealed", "Thread", "Random", "Exact"}) {
            Check.due("the word " + word, bare.matches("(?s).*\\b" + word + "\\b.*"), false);
        }
        Check.due("arrow", bare.contains("->"), false);
        Check.due("method reference", bare.contains("::"), false);
        Check.due("static block", bare.matches("(?s).*\\bstatic\\s*\\{.*"), false);
        Check.due("package", bare.matches("(?s).*\\bpackage\\b.*"), false);
        for (char c : text.toCharArray()) {
            if (c != '\n' && (c < 32 || c > 126)) {
                Check.due("the sign " + (int) c, true, false);
            }
        }
        Set<String> imports = new TreeSet<>();
        for (String line : text.split("\n")) {
            if (line.startsWith("import ")) {
                imports.add(line);
            }
            Check.due("width of \"" + line + "\"", line.length() <= 130, true);
        }
        Check.due("imports " + imports, Set.of("import java.util.Arrays;", "import java.util.NoSuchElementException;").equals(imports),
            true);
    }

    /** One compiled class, as far as the rules ask it. */
    private static final class Compiled {
        private final DataInputStream in;
        private Object[] pool;
        private String name;

        Compiled(DataInputStream from) {
            in = from;
        }

        void read() throws IOException {
            in.readLong();
            readPool();
            in.readUnsignedShort();
            name = (String) pool[(Integer) pool[in.readUnsignedShort()]];
            in.readUnsignedShort();
            in.skipBytes(2 * in.readUnsignedShort());
            members(false);
            members(true);
        }

        private void readPool() throws IOException {
            pool = new Object[in.readUnsignedShort()];
            for (int i = 1; i < pool.length; i++) {
                int tag = in.readUnsignedByte();
                switch (tag) {
                    case 1 -> pool[i] = in.readUTF();
                    case 3, 4 -> in.readInt();
                    case 5, 6 -> {
                        in.readLong();
                        i++;
                    }
                    case 7, 8, 16, 19, 20 -> pool[i] = in.readUnsignedShort();
                    case 9, 10, 11, 12, 17, 18 -> pool[i] = new int[] {in.readUnsignedShort(), in.readUnsignedShort()};
                    case 15 -> in.skipBytes(3);
                    default -> throw new IOException("tag " + tag);
                }
            }
        }

        private void members(boolean methods) throws IOException {
            int count = in.readUnsignedShort();
            for (int i = 0; i < count; i++) {
                in.readUnsignedShort();
                String member = name + "." + pool[in.readUnsignedShort()] + pool[in.readUnsignedShort()];
                int attributes = in.readUnsignedShort();
                for (int a = 0; a < attributes; a++) {
                    String kind = (String) pool[in.readUnsignedShort()];
                    int length = in.readInt();
                    if (methods && kind.equals("Code")) {
                        code(member);
                    } else {
                        in.skipBytes(length);
                    }
                }
            }
        }

        private void code(String method) throws IOException {
            in.readInt();
            byte[] bytes = new byte[in.readInt()];
            in.readFully(bytes);
            Check.due(method + " catches", in.readUnsignedShort(), 0);
            int attributes = in.readUnsignedShort();
            for (int a = 0; a < attributes; a++) {
                String kind = (String) pool[in.readUnsignedShort()];
                int length = in.readInt();
                if (kind.equals("LineNumberTable")) {
                    lines(method);
                } else {
                    in.skipBytes(length);
                }
            }
            CALLS.put(method, new TreeSet<>());
            calls(method, bytes);
        }

        private void lines(String method) throws IOException {
            int least = Integer.MAX_VALUE;
            int most = 0;
            for (int i = in.readUnsignedShort(); i > 0; i--) {
                in.readUnsignedShort();
                int line = in.readUnsignedShort();
                least = Math.min(least, line);
                most = Math.max(most, line);
            }
            // field initialisers stand far ahead of a constructor's own lines
            Check.due(method + " has " + (most - least) + " lines", most - least <= LONGEST || method.contains("<"), true);
        }

        private void calls(String method, byte[] b) {
            int at = 0;
            while (at < b.length) {
                int op = b[at] & 255;
                if (op >= 182 && op <= 185) {
                    called(method, (b[at + 1] & 255) << 8 | b[at + 2] & 255);
                }
                Check.due(method + " calls what is made as it runs", op == 186, false);
                Check.due(method + " throws", op == 191 && !method.startsWith("SixJoints.joint("), false);
                at += size(b, at);
            }
        }

        private void called(String method, int index) {
            int[] ref = (int[]) pool[index];
            int[] named = (int[]) pool[ref[1]];
            String owner = (String) pool[(Integer) pool[ref[0]]];
            String full = owner + "." + pool[named[0]] + pool[named[1]];
            if (owner.startsWith("SixJoints")) {
                CALLS.get(method).add(full);
            } else {
                Check.due(method + " calls " + full, LIBRARY.contains(full), true);
            }
        }

        private static int four(byte[] b, int at) {
            return b[at] << 24 | (b[at + 1] & 255) << 16 | (b[at + 2] & 255) << 8 | b[at + 3] & 255;
        }

        private static int size(byte[] b, int at) {
            int op = b[at] & 255;
            int table = at + 4 - at % 4;
            if (op == 170) {
                return table + 12 + 4 * (four(b, table + 8) - four(b, table + 4) + 1) - at;
            }
            if (op == 171) {
                return table + 8 + 8 * four(b, table + 4) - at;
            }
            if (op == 196) {
                return (b[at + 1] & 255) == 132 ? 6 : 4;
            }
            if (op == 16 || op == 18 || op >= 21 && op <= 25 || op >= 54 && op <= 58 || op == 169 || op == 188) {
                return 2;
            }
            if (op == 185 || op == 186 || op == 200 || op == 201) {
                return 5;
            }
            if (op == 197) {
                return 4;
            }
            boolean two = op == 17 || op == 19 || op == 20 || op == 132 || op >= 153 && op <= 168 || op >= 178 && op <= 184
                || op == 187 || op == 189 || op == 192 || op == 193 || op == 198 || op == 199;
            return two ? 3 : 1;
        }
    }
}
