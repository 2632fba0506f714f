import java.io.ByteArrayInputStream;
import java.io.DataInputStream;
import java.io.IOException;
import java.util.ArrayList;
import java.util.List;
import java.util.TreeMap;

/** What a compiled class calls and touches, read from its bytes. */
final class ClassFile {
    /** The name of the method with its class, and the methods that its code calls. */
    final TreeMap<String, List<String>> calls = new TreeMap<String, List<String>>();
    /** All methods and fields that it names, its own and others, as Class.name. */
    final List<String> members = new ArrayList<String>();
    boolean hasDynamicCalls;
    boolean hasCatches;

    private final DataInputStream in;
    private String[] texts;
    private int[] firsts;
    private int[] seconds;
    private int[] tags;

    ClassFile(byte[] bytes) throws IOException {
        in = new DataInputStream(new ByteArrayInputStream(bytes));
        in.skipBytes(8);
        readConstants(in.readUnsignedShort());
        for (int i = 1; i < tags.length; i++) {
            hasDynamicCalls |= tags[i] == 17 || tags[i] == 18;
            if (tags[i] >= 9 && tags[i] <= 11) {
                members.add(memberAt(i));
            }
        }
        in.skipBytes(2);
        String name = classAt(in.readUnsignedShort());
        in.skipBytes(2);
        in.skipBytes(2 * in.readUnsignedShort());
        readMembers(name, false);
        readMembers(name, true);
    }

    private void readConstants(int count) throws IOException {
        texts = new String[count];
        firsts = new int[count];
        seconds = new int[count];
        tags = new int[count];
        for (int i = 1; i < count; i++) {
            int at = i;
            tags[at] = in.readUnsignedByte();
            switch (tags[at]) {
                case 1:
                    texts[at] = in.readUTF();
                    break;
                case 5:
                case 6:
                    in.skipBytes(8);
                    i++;
                    break;
                case 7:
                case 8:
                case 16:
                case 19:
                case 20:
                    firsts[at] = in.readUnsignedShort();
                    break;
                case 15:
                    in.skipBytes(3);
                    break;
                default:
                    firsts[at] = in.readUnsignedShort();
                    seconds[at] = in.readUnsignedShort();
                    break;
            }
        }
    }

    private String classAt(int index) {
        return texts[firsts[index]];
    }

    private String memberAt(int index) {
        return classAt(firsts[index]) + "." + texts[firsts[seconds[index]]];
    }

    private void readMembers(String name, boolean isMethods) throws IOException {
        int count = in.readUnsignedShort();
        for (int i = 0; i < count; i++) {
            in.skipBytes(2);
            String member = name + "." + texts[in.readUnsignedShort()];
            in.skipBytes(2);
            int attributes = in.readUnsignedShort();
            for (int k = 0; k < attributes; k++) {
                String kind = texts[in.readUnsignedShort()];
                byte[] bytes = new byte[in.readInt()];
                in.readFully(bytes);
                if (isMethods && kind.equals("Code")) {
                    readCode(member, bytes);
                }
            }
        }
    }

    private void readCode(String method, byte[] attribute) {
        int end = 8 + wordAt(attribute, 4);
        List<String> called = calls.computeIfAbsent(method, key -> new ArrayList<String>());
        for (int at = 8; at < end; at += lengthAt(attribute, at)) {
            int code = attribute[at] & 255;
            if (code >= 0xb6 && code <= 0xb9) {
                called.add(memberAt(halfAt(attribute, at + 1)));
            }
        }
        hasCatches |= halfAt(attribute, end) != 0;
    }

    /** The length of the instruction at a place of the code, which begins behind 8 bytes of sizes. */
    private static int lengthAt(byte[] bytes, int at) {
        int code = bytes[at] & 255;
        if (code == 0xaa || code == 0xab) {
            int table = at + 4 - (at - 8) % 4;
            int low = wordAt(bytes, table + 4);
            int size = code == 0xab ? 8 + 8 * low : 12 + 4 * (wordAt(bytes, table + 8) - low + 1);
            return table - at + size;
        }
        if (code == 0xc4) {
            return (bytes[at + 1] & 255) == 0x84 ? 6 : 4;
        }
        if (code == 0xb9 || code == 0xba || code == 0xc8 || code == 0xc9) {
            return 5;
        }
        if (code == 0xc5) {
            return 4;
        }
        boolean isTwo = code == 0x10 || code == 0x12 || isIn(code, 0x15, 0x19) || isIn(code, 0x36, 0x3a)
                || code == 0xa9 || code == 0xbc;
        boolean isThree = code == 0x11 || code == 0x13 || code == 0x14 || code == 0x84 || isIn(code, 0x99, 0xa8)
                || isIn(code, 0xb2, 0xb8) || code == 0xbb || code == 0xbd || code == 0xc0 || code == 0xc1
                || code == 0xc6 || code == 0xc7;
        return isTwo ? 2 : isThree ? 3 : 1;
    }

    private static boolean isIn(int code, int least, int most) {
        return code >= least && code <= most;
    }

    private static int halfAt(byte[] bytes, int at) {
        return (bytes[at] & 255) << 8 | bytes[at + 1] & 255;
    }

    private static int wordAt(byte[] bytes, int at) {
        return halfAt(bytes, at) << 16 | halfAt(bytes, at + 2);
    }
}
