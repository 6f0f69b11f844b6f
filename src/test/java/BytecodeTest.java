import java.io.ByteArrayInputStream;
import java.io.DataInputStream;
import java.io.IOException;
import java.io.InputStream;
import java.util.ArrayList;
import java.util.HashMap;
import java.util.HashSet;
import java.util.List;
import java.util.Map;
import java.util.Set;
import java.util.TreeMap;
import java.util.TreeSet;

/**
 * Rules of LANGUAGE.md that can be read off the compiled class: how deep calls go, that none is a recursion, which library is
 * called, that nothing is thrown, and that objects are made by constructors alone.
 */
public final class BytecodeTest {
    private static final Check CHECK = new Check("BytecodeTest");
    private static final int DEEPEST = 8;
    private static final Set<String> LIBRARY = Set.of("java/lang/Object.<init>", "java/lang/Math.min", "java/lang/Math.max",
        "java/lang/Math.abs", "java/lang/Math.floorMod", "java/lang/Math.floorDiv", "java/lang/Integer.bitCount",
        "java/lang/Integer.numberOfTrailingZeros", "java/lang/String.charAt", "java/lang/String.length", "java/lang/System.arraycopy",
        "java/util/Arrays.fill");
    /** How many bytes follow each instruction; 9 for those that say it themselves. */
    private static final String FOLLOWING = "0000000000000000" + "1212211111000000" + "0000000000000000" + "0000001111100000"
        + "0000000000000000" + "0000000000000000" + "0000000000000000" + "0000000000000000" + "0000200000000000" + "0000000002222222"
        + "2222222221990000" + "0022222224421200" + "2200932244";

    private final Map<String, List<String>> calls = new TreeMap<>();
    private final Map<String, Integer> depths = new HashMap<>();
    private final Set<String> open = new HashSet<>();
    private String[] names = {};
    private int[][] pairs = {};

    public static void main(String[] args) throws IOException {
        BytecodeTest test = new BytecodeTest();
        test.read(BeaconWall.class);
        for (Class<?> inner : BeaconWall.class.getDeclaredClasses()) {
            test.read(inner);
        }
        test.library();
        for (String method : test.calls.keySet()) {
            if (method.startsWith("BeaconWall.")) {
                int depth = test.depthOf(method);
                CHECK.due(method + " goes " + depth + " deep, " + DEEPEST + " at most", depth <= DEEPEST, true);
            }
        }
        CHECK.finish();
    }

    private void library() {
        Set<String> called = new TreeSet<>();
        calls.values().forEach(called::addAll);
        for (String method : called) {
            boolean isOwn = method.startsWith("BeaconWall");
            CHECK.due("the call of " + method, isOwn || LIBRARY.contains(method.substring(0, method.indexOf('('))), true);
        }
    }

    /** How many calls stand open at once, the library's own call too. */
    private int depthOf(String method) {
        if (!calls.containsKey(method)) {
            return 1;
        }
        if (depths.containsKey(method)) {
            return depths.get(method);
        }
        CHECK.due(method + " is a recursion", open.add(method), true);
        int deepest = 0;
        for (String called : calls.get(method)) {
            deepest = Math.max(deepest, open.contains(called) ? DEEPEST : depthOf(called));
        }
        open.remove(method);
        depths.put(method, deepest + 1);
        return deepest + 1;
    }

    // ---- the class file

    private void read(Class<?> type) throws IOException {
        String file = type.getName() + ".class";
        try (InputStream stream = BytecodeTest.class.getResourceAsStream(file)) {
            DataInputStream in = new DataInputStream(new ByteArrayInputStream(stream.readAllBytes()));
            in.readLong();
            readConstants(in);
            in.skipBytes(6);
            in.skipBytes(2 * in.readUnsignedShort());
            readMembers(in, type, false);
            readMembers(in, type, true);
        }
    }

    private void readConstants(DataInputStream in) throws IOException {
        int count = in.readUnsignedShort();
        names = new String[count];
        pairs = new int[count][2];
        for (int i = 1; i < count; i++) {
            int tag = in.readUnsignedByte();
            switch (tag) {
                case 1 -> names[i] = in.readUTF();
                case 3, 4 -> in.readInt();
                case 5, 6 -> {
                    in.readLong();
                    i++;
                }
                case 7, 8, 16, 19, 20 -> pairs[i][0] = in.readUnsignedShort();
                case 15 -> in.skipBytes(3);
                default -> {
                    pairs[i][0] = in.readUnsignedShort();
                    pairs[i][1] = in.readUnsignedShort();
                }
            }
        }
    }

    private void readMembers(DataInputStream in, Class<?> type, boolean areMethods) throws IOException {
        int count = in.readUnsignedShort();
        for (int i = 0; i < count; i++) {
            in.readUnsignedShort();
            String name = names[in.readUnsignedShort()];
            String method = type.getName() + "." + name + names[in.readUnsignedShort()];
            int attributes = in.readUnsignedShort();
            for (int j = 0; j < attributes; j++) {
                String attribute = names[in.readUnsignedShort()];
                byte[] content = new byte[in.readInt()];
                in.readFully(content);
                if (areMethods && attribute.equals("Code")) {
                    readCode(method, name.equals("<init>"), content);
                }
            }
        }
    }

    private void readCode(String method, boolean isConstructor, byte[] content) {
        List<String> called = new ArrayList<>();
        calls.put(method, called);
        int end = 8 + fourBytes(content, 4);
        for (int at = 8; at < end; at = behind(content, at)) {
            int code = content[at] & 255;
            boolean makes = code == 0xbb || code == 0xbc || code == 0xbd || code == 0xc5;
            CHECK.due(method + " makes an object and is no constructor", makes && !isConstructor, false);
            CHECK.due(method + " throws, casts or joins texts", code == 0xbf || code == 0xc0 || code == 0xba, false);
            if (code >= 0xb6 && code <= 0xb9) {
                int[] member = pairs[twoBytes(content, at + 1)];
                int[] nameAndType = pairs[member[1]];
                called.add(names[pairs[member[0]][0]] + "." + names[nameAndType[0]] + names[nameAndType[1]]);
            }
        }
        CHECK.due(method + " catches", twoBytes(content, end), 0);
    }

    private static int behind(byte[] content, int at) {
        int code = content[at] & 255;
        int following = FOLLOWING.charAt(code) - '0';
        if (following != 9) {
            return at + 1 + following;
        }
        // The code begins at 8, so that what stands at a multiple of four there does so here, too.
        int aligned = (at + 4) / 4 * 4;
        if (code == 0xaa) {
            return aligned + 12 + 4 * (fourBytes(content, aligned + 8) - fourBytes(content, aligned + 4) + 1);
        }
        if (code == 0xab) {
            return aligned + 8 + 8 * fourBytes(content, aligned + 4);
        }
        return at + ((content[at + 1] & 255) == 0x84 ? 6 : 4);
    }

    private static int twoBytes(byte[] content, int at) {
        return (content[at] & 255) << 8 | content[at + 1] & 255;
    }

    private static int fourBytes(byte[] content, int at) {
        return twoBytes(content, at) << 16 | twoBytes(content, at + 2);
    }
}
