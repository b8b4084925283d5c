import java.io.DataInputStream;
import java.io.IOException;
import java.io.InputStream;
import java.nio.ByteBuffer;
import java.util.Arrays;
import java.util.HashMap;
import java.util.HashSet;
import java.util.Map;
import java.util.Set;
import java.util.TreeMap;
import java.util.TreeSet;

/**
 * What LANGUAGE.md says of calls, by the compiled classes: how deep they go, none that comes back to itself, nothing
 * made but by constructors, nothing of the library but what the program needs of it.
 */
public final class CallsTest {
    private static final int DEEPEST = 8;
    private static final Set<String> LIBRARY = new HashSet<>(Arrays.asList("java/lang/Object.<init>",
        "java/lang/String.length", "java/lang/String.charAt", "java/lang/String.indexOf", "java/lang/Integer.bitCount",
        "java/lang/Math.min", "java/lang/Math.max", "java/lang/Math.abs", "java/lang/System.arraycopy",
        "java/util/Arrays.fill"));

    private static final Map<String, Set<String>> CALLS = new TreeMap<>();
    private static final Map<String, Integer> DEPTHS = new HashMap<>();
    private static final Set<String> OPEN = new HashSet<>();

    public static void main(String[] args) throws IOException {
        read("WhichBin");
        for (Class<?> one : WhichBin.class.getDeclaredClasses()) {
            read(one.getName());
        }
        Check.due("methods", CALLS.size() > 100, true);
        int deepest = 0;
        for (String method : CALLS.keySet()) {
            int depth = depth(method);
            Check.due("depth of " + method + ": " + depth, depth <= DEEPEST, true);
            deepest = Math.max(deepest, depth);
        }
        Check.due("some calls go deep", deepest > 4, true);
        for (Set<String> called : CALLS.values()) {
            for (String name : called) {
                Check.due(name + " is known", CALLS.containsKey(name) || LIBRARY.contains(name), true);
            }
        }
        Check.finish("CallsTest");
    }

    /** A method by itself is 1 deep; the library's own calls are not counted. */
    private static int depth(String method) {
        if (!CALLS.containsKey(method)) {
            return 0;
        }
        if (DEPTHS.containsKey(method)) {
            return DEPTHS.get(method);
        }
        Check.due(method + " comes back to itself", OPEN.add(method), true);
        int most = 0;
        for (String called : CALLS.get(method)) {
            if (!OPEN.contains(called)) {
                most = Math.max(most, depth(called));
            }
        }
        OPEN.remove(method);
        DEPTHS.put(method, most + 1);
        return most + 1;
    }

    private static void read(String name) throws IOException {
        try (InputStream in = CallsTest.class.getResourceAsStream(name + ".class")) {
            DataInputStream data = new DataInputStream(in);
            data.readInt();
            data.readInt();
            Object[] pool = pool(data);
            data.readUnsignedShort();
            data.readInt();
            data.skipBytes(2 * data.readUnsignedShort());
            int fields = data.readUnsignedShort();
            for (int i = 0; i < fields; i++) {
                member(data, pool, null);
            }
            int methods = data.readUnsignedShort();
            for (int i = 0; i < methods; i++) {
                member(data, pool, name);
            }
        }
    }

    /** Texts as such; of all that names another constant its indices. */
    private static Object[] pool(DataInputStream data) throws IOException {
        Object[] pool = new Object[data.readUnsignedShort()];
        for (int i = 1; i < pool.length; i++) {
            int tag = data.readUnsignedByte();
            switch (tag) {
                case 1:
                    pool[i] = data.readUTF();
                    break;
                case 5:
                case 6:
                    data.readLong();
                    i++;
                    break;
                case 7:
                case 8:
                case 16:
                case 19:
                case 20:
                    pool[i] = new int[] {data.readUnsignedShort()};
                    break;
                case 15:
                    data.skipBytes(3);
                    break;
                case 3:
                case 4:
                    data.readInt();
                    break;
                default:
                    pool[i] = new int[] {data.readUnsignedShort(), data.readUnsignedShort()};
                    break;
            }
        }
        return pool;
    }

    private static Object at(Object[] pool, int index, int part) {
        return pool[((int[]) pool[index])[part]];
    }

    /** Class and name of a method or field that is used. */
    private static String used(Object[] pool, int index) {
        int[] parts = (int[]) pool[index];
        return at(pool, parts[0], 0) + "." + at(pool, parts[1], 0);
    }

    private static void member(DataInputStream data, Object[] pool, String owner) throws IOException {
        data.readUnsignedShort();
        String name = (String) pool[data.readUnsignedShort()];
        data.readUnsignedShort();
        int attributes = data.readUnsignedShort();
        for (int i = 0; i < attributes; i++) {
            String attribute = (String) pool[data.readUnsignedShort()];
            byte[] bytes = new byte[data.readInt()];
            data.readFully(bytes);
            if (owner != null && attribute.equals("Code")) {
                ByteBuffer code = ByteBuffer.wrap(bytes);
                int length = code.getInt(4);
                code.position(8).limit(8 + length);
                steps(code.slice(), pool, owner + "." + name);
                Check.due("what " + owner + "." + name + " catches", ByteBuffer.wrap(bytes).getShort(8 + length), 0);
            }
        }
    }

    private static void steps(ByteBuffer code, Object[] pool, String method) {
        Set<String> called = CALLS.computeIfAbsent(method, key -> new TreeSet<>());
        boolean makes = method.endsWith("init>");
        int at = 0;
        while (at < code.limit()) {
            int step = code.get(at) & 255;
            if (step >= 182 && step <= 186) {
                Check.due(method + " calls by a step of its own", step == 186, false);
                called.add(used(pool, code.getShort(at + 1) & 0xffff));
            }
            if (step >= 187 && step <= 189 || step == 197) {
                Check.due(method + " makes something", makes, true);
            }
            Check.due(method + " throws", step == 191, false);
            at += length(code, at, step);
        }
    }

    private static int length(ByteBuffer code, int at, int step) {
        int aligned = at + 4 - at % 4;
        switch (step) {
            case 170:
                return aligned + 12 + 4 * (code.getInt(aligned + 8) - code.getInt(aligned + 4) + 1) - at;
            case 171:
                return aligned + 8 + 8 * code.getInt(aligned + 4) - at;
            case 196:
                return (code.get(at + 1) & 255) == 132 ? 6 : 4;
            case 185:
            case 186:
            case 200:
            case 201:
                return 5;
            case 197:
                return 4;
            case 17:
            case 19:
            case 20:
            case 132:
            case 187:
            case 189:
            case 192:
            case 193:
            case 198:
            case 199:
                return 3;
            case 16:
            case 18:
            case 169:
            case 188:
                return 2;
            default:
                boolean loadsOrStores = step >= 21 && step <= 25 || step >= 54 && step <= 58;
                boolean jumpsOrUses = step >= 153 && step <= 168 || step >= 178 && step <= 184;
                return loadsOrStores ? 2 : jumpsOrUses ? 3 : 1;
        }
    }
}
