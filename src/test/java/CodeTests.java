import java.io.ByteArrayInputStream;
import java.io.DataInputStream;
import java.io.IOException;
import java.io.InputStream;
import java.lang.reflect.Array;
import java.lang.reflect.Field;
import java.lang.reflect.Modifier;
import java.util.ArrayList;
import java.util.IdentityHashMap;
import java.util.List;
import java.util.Map;
import java.util.Random;
import java.util.Set;
import java.util.TreeMap;
import java.util.TreeSet;

/**
 * Those rules of LANGUAGE.md that the compiled class shows better than its text: what it calls, how deep
 * its calls go, where it makes objects, that it neither throws nor catches; and how much room one object
 * takes, of which all calls together may take no more.
 */
public final class CodeTests {
    private static final int DEEPEST = 8;
    private static final int MOST_OBJECTS = 100, MOST_ELEMENTS = 1500;

    /** The functions over int and long of rule 4 are told by their pattern, the rest by name. */
    private static final String NUMBER_FUNCTIONS = "java/lang/(Integer|Long|Math)\\.(?!\\w+Exact)\\w+\\([IJ]+\\)[IJ]";
    private static final Set<String> LIBRARY = Set.of("java/lang/Object.<init>()V",
            "java/lang/System.arraycopy(Ljava/lang/Object;ILjava/lang/Object;II)V");
    private static final String TYPE = "\\[?([IJZB]|LMarbleLaw\\$\\w+;)";

    private static final int PUTSTATIC = 179, INVOKEVIRTUAL = 182, INVOKEINTERFACE = 185, INVOKEDYNAMIC = 186;
    private static final int NEW = 187, ANEWARRAY = 189, MULTIANEWARRAY = 197;
    private static final int TABLESWITCH = 170, LOOKUPSWITCH = 171, WIDE = 196, IINC = 132;
    /**
     * athrow, checkcast, instanceof, monitorenter, monitorexit, jsr, ret, jsr_w, invokedynamic. Rule 6 leaves
     * casts behind their test; the class needs none.
     */
    private static final Set<Integer> FORBIDDEN = Set.of(191, 192, 193, 194, 195, 168, 169, 201, INVOKEDYNAMIC);

    /** How many bytes an instruction takes, by its number from 0 on; 0: its own look is needed. */
    private static final String SIZES = "1111111111111111" + "2323322222111111" + "1111111111111111" + "1111112222211111"
            + "1111111111111111" + "1111111111111111" + "1111111111111111" + "1111111111111111" + "1111311111111111"
            + "1111111113333333" + "3333333332001111" + "1133333335532311" + "3311043355";

    private static final Map<String, Set<String>> calls = new TreeMap<>();
    private static final Set<String> open = new TreeSet<>();
    private static int wrong = 0;

    private static void must(boolean holds, String what) {
        if (holds) return;
        wrong++;
        System.out.println(what);
    }

    public static void main(String[] args) throws IOException {
        must(MarbleLaw.class.getDeclaredMethods().length > 0, "there is a class");
        read("MarbleLaw");
        for (Class<?> inner : MarbleLaw.class.getDeclaredClasses()) {
            must(inner.getDeclaredClasses().length == 0, "rule 2: no classes inside " + inner);
            read(inner.getName());
        }
        depths();
        room();
        System.out.println(wrong == 0 ? calls.size() + " methods keep the rules" : wrong + " rules are broken");
        if (wrong != 0) System.exit(1);
    }

    // ---- reading a class file

    private static void read(String name) throws IOException {
        try (InputStream file = CodeTests.class.getResourceAsStream("/" + name + ".class")) {
            if (file == null) {
                must(false, "no class file of " + name);
                return;
            }
            DataInputStream in = new DataInputStream(file);
            in.skipBytes(8);
            String[] pool = pool(in);
            in.skipBytes(6);
            in.skipBytes(2 * in.readUnsignedShort());
            members(in, pool, name, false);
            members(in, pool, name, true);
        }
    }

    /** Texts as they are, references as "class.name" with the type behind it. */
    private static String[] pool(DataInputStream in) throws IOException {
        int n = in.readUnsignedShort();
        String[] pool = new String[n];
        int[] first = new int[n], second = new int[n];
        for (int i = 1; i < n; i++) {
            int tag = in.readUnsignedByte();
            switch (tag) {
                case 1 -> pool[i] = in.readUTF();
                case 3, 4 -> in.skipBytes(4);
                case 5, 6 -> { in.skipBytes(8); i++; }
                case 7, 8, 16, 19, 20 -> { first[i] = in.readUnsignedShort(); second[i] = -1; }
                case 9, 10, 11, 12, 17, 18 -> { first[i] = in.readUnsignedShort(); second[i] = in.readUnsignedShort(); }
                case 15 -> in.skipBytes(3);
                default -> must(false, "a constant that no Java 17 compiler writes: " + tag);
            }
        }
        for (int round = 0; round < 3; round++) {
            for (int i = 1; i < n; i++) {
                if (pool[i] != null || first[i] == 0 || pool[first[i]] == null) continue;
                if (second[i] == -1) pool[i] = pool[first[i]];
                else if (second[i] > 0 && pool[second[i]] != null) pool[i] = joined(pool[first[i]], pool[second[i]]);
            }
        }
        return pool;
    }

    /** A name with its type has no dot: "row(II)I", "size I"; behind a class a dot is put. */
    private static String joined(String a, String b) {
        if (b.startsWith("(")) return a + b;
        return b.contains("(") || b.contains(" ") ? a + "." + b : a + " " + b;
    }

    private static void members(DataInputStream in, String[] pool, String owner, boolean methods) throws IOException {
        for (int n = in.readUnsignedShort(); n > 0; n--) {
            in.skipBytes(2);
            String name = pool[in.readUnsignedShort()];
            String type = pool[in.readUnsignedShort()];
            must(type.matches(methods ? "\\((" + TYPE + ")*\\)(V|" + TYPE + ")" : TYPE), "rule 3: " + owner + "." + name + " " + type);
            for (int a = in.readUnsignedShort(); a > 0; a--) {
                String attribute = pool[in.readUnsignedShort()];
                byte[] bytes = new byte[in.readInt()];
                in.readFully(bytes);
                if (attribute.equals("Code")) code(bytes, pool, owner + "." + name + type);
            }
        }
    }

    private static void code(byte[] bytes, String[] pool, String method) throws IOException {
        DataInputStream in = new DataInputStream(new ByteArrayInputStream(bytes));
        in.skipBytes(4);
        byte[] code = new byte[in.readInt()];
        in.readFully(code);
        must(in.readUnsignedShort() == 0, "rule 6: nothing is caught: " + method);
        calls.put(method, new TreeSet<>());
        int at = 0;
        while (at < code.length) {
            int op = code[at] & 255;
            instruction(op, op == NEW || op >= INVOKEVIRTUAL && op <= INVOKEINTERFACE || op == PUTSTATIC
                    ? pool[(code[at + 1] & 255) << 8 | code[at + 2] & 255] : "", method);
            at += size(code, at, op);
        }
        must(at == code.length, "read to the end: " + method);
    }

    private static void instruction(int op, String named, String method) {
        boolean making = method.contains("<init>") || method.contains("<clinit>");
        must(!FORBIDDEN.contains(op), "rules 2, 6: instruction " + op + " in " + method);
        must(making || (op < NEW || op > ANEWARRAY) && op != MULTIANEWARRAY, "rule 12: makes an object: " + method);
        must(op != PUTSTATIC || method.contains("<clinit>"), "rule 5: changes a static field: " + method);
        if (op < INVOKEVIRTUAL || op > INVOKEINTERFACE) return;
        if (named.startsWith("MarbleLaw")) calls.get(method).add(named);
        else must(LIBRARY.contains(named) || named.matches(NUMBER_FUNCTIONS), "rule 4: " + named + " in " + method);
    }

    private static int size(byte[] code, int at, int op) {
        int padded = (at + 4) / 4 * 4;
        if (op == TABLESWITCH) return padded + 12 + 4 * (word(code, padded + 8) - word(code, padded + 4) + 1) - at;
        if (op == LOOKUPSWITCH) return padded + 8 + 8 * word(code, padded + 4) - at;
        if (op == WIDE) return (code[at + 1] & 255) == IINC ? 6 : 4;
        return op < SIZES.length() ? SIZES.charAt(op) - '0' : 1;
    }

    private static int word(byte[] code, int at) {
        return (code[at] & 255) << 24 | (code[at + 1] & 255) << 16 | (code[at + 2] & 255) << 8 | code[at + 3] & 255;
    }

    // ---- how deep calls go

    private static void depths() {
        must(calls.size() > 43, "all methods are read: " + calls.size());
        for (Map.Entry<String, Set<String>> e : calls.entrySet()) {
            for (String callee : e.getValue()) must(calls.containsKey(callee), e.getKey() + " calls what is not there: " + callee);
        }
        for (String method : calls.keySet()) must(depth(method) <= DEEPEST, "rule 11: calls go too deep from " + method);
    }

    /** No method calls itself, by no way: what is open already must not be met again. */
    private static int depth(String method) {
        if (!calls.containsKey(method)) return 1;
        if (!open.add(method)) {
            must(false, "rule 8: recursion by " + method);
            return 1;
        }
        int deepest = 0;
        for (String callee : calls.get(method)) deepest = Math.max(deepest, depth(callee));
        open.remove(method);
        return deepest + 1;
    }

    // ---- the room that one object takes

    private static void room() {
        MarbleLaw x = new MarbleLaw();
        int[] before = roomOf(x);
        must(before[0] <= MOST_OBJECTS && before[1] <= MOST_ELEMENTS, "an object takes " + before[0] + " and " + before[1]);
        List<Object> held = reached(x);
        Random random = new Random(8);
        for (int i = 0; i < 512; i++) anyCall(x, random);
        must(x.count(2) > 0 && x.count(3) > 0 && x.count(5) > 0 && x.count(6) > 0, "the calls told something of each");
        List<Object> later = reached(x);
        must(held.size() == later.size(), "calls leave no object behind");
        for (int i = 0; i < Math.min(held.size(), later.size()); i++) must(held.get(i) == later.get(i), "the same objects stay");
    }

    private static void anyCall(MarbleLaw x, Random random) {
        int a = random.nextInt(4), b = random.nextInt(4), c = random.nextInt(6), d = random.nextInt(40);
        switch (random.nextInt(16)) {
            case 0 -> x.row(a, d);
            case 1 -> x.lay(a, d, c);
            case 2 -> x.copy(a, 0, b, 0, 2);
            case 3 -> x.text(a, 2 * b);
            case 4 -> x.stuff(b, 1 + d, 1 + c, c);
            case 5 -> x.making(1 + c, a, b, c, d, c, true);
            case 6 -> x.laws(a, b);
            case 7 -> x.whose(a, b, c, 0, c);
            case 8 -> x.beside(a, b, c);
            case 9 -> x.hangs(a, b, c, c);
            case 10 -> x.stop(a, b, c, d);
            case 11 -> x.inTime(a, b, c);
            case 12 -> x.heap(a, c, 1 + d);
            case 13 -> x.draw(a, c, 1 + d, b);
            case 14 -> x.undo(a, c);
            default -> x.digest();
        }
    }

    private static int[] roomOf(MarbleLaw x) {
        List<Object> all = reached(x);
        int elements = 0;
        for (Object o : all) elements += o.getClass().isArray() ? Array.getLength(o) : fieldsOf(o).size();
        return new int[] {all.size(), elements};
    }

    private static List<Field> fieldsOf(Object o) {
        List<Field> fields = new ArrayList<>();
        for (Field f : o.getClass().getDeclaredFields()) if (!Modifier.isStatic(f.getModifiers())) fields.add(f);
        return fields;
    }

    /** The object and all that it holds, each once, in one order always. */
    private static List<Object> reached(MarbleLaw x) {
        List<Object> all = new ArrayList<>(List.of(x));
        Map<Object, Boolean> met = new IdentityHashMap<>(Map.of(x, true));
        for (int i = 0; i < all.size(); i++) {
            for (Object o : heldBy(all.get(i))) if (o != null && met.put(o, true) == null) all.add(o);
        }
        return all;
    }

    private static List<Object> heldBy(Object o) {
        List<Object> held = new ArrayList<>();
        if (o instanceof Object[] row) held.addAll(java.util.Arrays.asList(row));
        if (o.getClass().isArray()) return held;
        for (Field f : fieldsOf(o)) {
            if (f.getType().isPrimitive()) continue;
            try {
                f.setAccessible(true);
                held.add(f.get(o));
            } catch (IllegalAccessException e) {
                must(false, "not to be looked at: " + f);
            }
        }
        return held;
    }
}
