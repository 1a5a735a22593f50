import java.io.DataInputStream;
import java.io.IOException;
import java.util.ArrayList;
import java.util.Collections;
import java.util.LinkedHashMap;
import java.util.List;
import java.util.Map;
import java.util.Set;
import java.util.TreeSet;

/** What stands in a class file: which methods each method calls, and which of them touch an array. A method is told by its class, a dot and its name. */
final class ClassFile {
    /** By instruction: how many bytes it takes; 0 for those that do not always take the same number (a switch), which the class has none of. */
    private static final int[] SIZES = sizes();

    private final Map<String, Set<String>> calls = new LinkedHashMap<>();
    private final Set<String> touching = new TreeSet<>();
    private String[] texts;
    private int[][] parts;

    ClassFile(Class<?> one) throws IOException {
        try (DataInputStream in = new DataInputStream(one.getResourceAsStream("/" + one.getName() + ".class"))) {
            in.readFully(new byte[8]);
            readConstants(in);
            in.readFully(new byte[6]);
            in.readFully(new byte[2 * in.readUnsignedShort()]);
            readMembers(in, one.getName());
            readMembers(in, one.getName());
        }
    }

    /** By method: those that it calls, which is said of a call that is found when it runs too. */
    Map<String, Set<String>> calls() {
        return Collections.unmodifiableMap(calls);
    }

    /** The methods that take something from an array, or put something into it. */
    Set<String> touching() {
        return Collections.unmodifiableSet(touching);
    }

    private void readConstants(DataInputStream in) throws IOException {
        int count = in.readUnsignedShort();
        texts = new String[count];
        parts = new int[count][];
        for (int i = 1; i < count; i++) {
            i += readConstant(in, i);
        }
    }

    /** Returns how many numbers more this constant takes. */
    private int readConstant(DataInputStream in, int i) throws IOException {
        int tag = in.readUnsignedByte();
        switch (tag) {
            case 1:
                texts[i] = in.readUTF();
                return 0;
            case 5, 6:
                in.readLong();
                return 1;
            case 7, 8, 16, 19, 20:
                parts[i] = new int[] {tag, in.readUnsignedShort()};
                return 0;
            case 15:
                in.readFully(new byte[3]);
                return 0;
            case 3, 4:
                in.readInt();
                return 0;
            default:
                parts[i] = new int[] {tag, in.readUnsignedShort(), in.readUnsignedShort()};
                return 0;
        }
    }

    /** Fields, and then methods, which are written alike. */
    private void readMembers(DataInputStream in, String owner) throws IOException {
        int count = in.readUnsignedShort();
        for (int i = 0; i < count; i++) {
            in.readUnsignedShort();
            String name = owner + "." + texts[in.readUnsignedShort()];
            in.readUnsignedShort();
            int attributes = in.readUnsignedShort();
            for (int k = 0; k < attributes; k++) {
                String kind = texts[in.readUnsignedShort()];
                byte[] bytes = new byte[in.readInt()];
                in.readFully(bytes);
                if (kind.equals("Code")) {
                    readCode(bytes, name);
                }
            }
        }
    }

    private void readCode(byte[] bytes, String name) {
        Set<String> called = calls.computeIfAbsent(name, key -> new TreeSet<>());
        int end = 8 + (number(bytes, 4) << 16 | number(bytes, 6));
        for (int at = 8; at < end; at += size(bytes, at, name)) {
            int instruction = bytes[at] & 255;
            if (instruction >= 182 && instruction <= 185) {
                int[] part = parts[number(bytes, at + 1)];
                called.add(texts[parts[part[1]][1]] + "." + texts[parts[part[2]][1]]);
            } else if (instruction == 186) {
                called.add("a call that is found when it runs");
            } else if (instruction >= 46 && instruction <= 53 || instruction >= 79 && instruction <= 86) {
                touching.add(name);
            }
        }
    }

    private static int number(byte[] bytes, int at) {
        return (bytes[at] & 255) << 8 | bytes[at + 1] & 255;
    }

    private static int size(byte[] bytes, int at, String name) {
        int instruction = bytes[at] & 255;
        if (instruction >= SIZES.length || SIZES[instruction] == 0) {
            throw new IllegalStateException("the instruction " + instruction + " in " + name + " is not known here");
        }
        return SIZES[instruction];
    }

    private static int[] sizes() {
        int[] sizes = new int[202];
        int[][] runs = {{0, 15, 1}, {16, 16, 2}, {17, 17, 3}, {18, 18, 2}, {19, 20, 3}, {21, 25, 2}, {26, 53, 1}, {54, 58, 2},
            {59, 131, 1}, {132, 132, 3}, {133, 152, 1}, {153, 168, 3}, {169, 169, 2}, {172, 177, 1}, {178, 184, 3}, {185, 186, 5},
            {187, 187, 3}, {188, 188, 2}, {189, 189, 3}, {190, 191, 1}, {192, 193, 3}, {194, 195, 1}, {197, 197, 4}, {198, 199, 3},
            {200, 201, 5}};
        for (int[] run : runs) {
            for (int i = run[0]; i <= run[1]; i++) {
                sizes[i] = run[2];
            }
        }
        return sizes;
    }
}
