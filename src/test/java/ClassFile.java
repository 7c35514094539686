import java.io.DataInputStream;
import java.io.IOException;
import java.io.InputStream;
import java.util.ArrayList;
import java.util.LinkedHashMap;
import java.util.List;
import java.util.Map;

/** A compiled class, as far as RoomTest asks: which methods each method calls, and how often it makes something. */
final class ClassFile {
    /** How many bytes follow each opcode from 0 on; those of a switch and of wide depend on what stands there. */
    private static final String BYTES_BEHIND =
        "0000000000000000" + "1212211111000000" + "0000000000000000" + "0000001111100000"
        + "0000000000000000" + "0000000000000000" + "0000000000000000" + "0000000000000000"
        + "0000200000000000" + "0000000002222222" + "2222222221??0000" + "0022222224421200"
        + "2200?32244";
    private static final int TABLESWITCH = 170;
    private static final int WIDE = 196;
    private static final int IINC = 132;
    private static final int FIRST_INVOKE = 182;
    private static final int LAST_INVOKE = 185;
    private static final int INVOKEDYNAMIC = 186;
    private static final int NEW = 187;
    private static final int NEWARRAY = 188;
    private static final int ANEWARRAY = 189;
    private static final int MULTIANEWARRAY = 197;

    final String name;
    final Map<String, List<String>> calls = new LinkedHashMap<>();
    final Map<String, Integer> makes = new LinkedHashMap<>();
    private final Object[] pool;

    ClassFile(String className) throws IOException {
        name = className;
        try (InputStream raw = ClassFile.class.getResourceAsStream("/" + className + ".class")) {
            if (raw == null) {
                throw new IOException(className + " was not compiled");
            }
            DataInputStream in = new DataInputStream(raw);
            in.skipNBytes(8);
            pool = new Object[in.readUnsignedShort()];
            readPool(in);
            in.skipNBytes(6);
            in.skipNBytes(2L * in.readUnsignedShort());
            readMembers(in);
            readMembers(in);
        }
    }

    private void readPool(DataInputStream in) throws IOException {
        for (int i = 1; i < pool.length; i++) {
            int tag = in.readUnsignedByte();
            switch (tag) {
                case 1 -> pool[i] = in.readUTF();
                case 3, 4 -> in.skipNBytes(4);
                case 5, 6 -> {
                    in.skipNBytes(8);
                    i++;
                }
                case 7, 8, 16, 19, 20 -> pool[i] = new int[] {in.readUnsignedShort()};
                case 15 -> in.skipNBytes(3);
                default -> pool[i] = new int[] {in.readUnsignedShort(), in.readUnsignedShort()};
            }
        }
    }

    private int at(int index, int which) {
        return ((int[]) pool[index])[which];
    }

    private void readMembers(DataInputStream in) throws IOException {
        for (int left = in.readUnsignedShort(); left > 0; left--) {
            in.skipNBytes(2);
            String member = name + "." + pool[in.readUnsignedShort()] + pool[in.readUnsignedShort()];
            for (int attributes = in.readUnsignedShort(); attributes > 0; attributes--) {
                String attribute = (String) pool[in.readUnsignedShort()];
                byte[] bytes = new byte[in.readInt()];
                in.readFully(bytes);
                if (attribute.equals("Code")) {
                    readCode(member, bytes);
                }
            }
        }
    }

    private static int number(byte[] bytes, int from, int many) {
        int n = 0;
        for (int i = from; i < from + many; i++) {
            n = n << 8 | bytes[i] & 255;
        }
        return n;
    }

    private void readCode(String member, byte[] code) {
        int first = 8;
        int behind = first + number(code, 4, 4);
        List<String> called = new ArrayList<>();
        int made = 0;
        for (int i = first; i < behind; i += 1 + bytesBehind(code, i, first)) {
            int op = code[i] & 255;
            if (op >= FIRST_INVOKE && op <= LAST_INVOKE) {
                int ref = number(code, i + 1, 2);
                int nameAndType = at(ref, 1);
                called.add(pool[at(at(ref, 0), 0)] + "." + pool[at(nameAndType, 0)] + pool[at(nameAndType, 1)]);
            } else if (op == INVOKEDYNAMIC) {
                called.add("invokedynamic");
            }
            made += op == NEW || op == NEWARRAY || op == ANEWARRAY || op == MULTIANEWARRAY ? 1 : 0;
        }
        calls.put(member, called);
        makes.put(member, made);
    }

    private static int bytesBehind(byte[] code, int at, int first) {
        int op = code[at] & 255;
        if (op == WIDE) {
            return (code[at + 1] & 255) == IINC ? 5 : 3;
        }
        char told = BYTES_BEHIND.charAt(op);
        if (told != '?') {
            return told - '0';
        }
        int padding = 3 - (at - first) % 4;
        int table = at + 1 + padding;
        if (op == TABLESWITCH) {
            return padding + 12 + 4 * (number(code, table + 8, 4) - number(code, table + 4, 4) + 1);
        }
        return padding + 8 + 8 * number(code, table + 4, 4);
    }
}
