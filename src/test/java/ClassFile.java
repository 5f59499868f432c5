import java.io.DataInputStream;
import java.io.IOException;
import java.io.InputStream;
import java.util.ArrayList;
import java.util.List;

/** What a compiled class calls, makes and throws, read from its bytes; RulesTest asks rules of LANGUAGE.md of it. */
final class ClassFile {
    /** A method, with what its instructions do. Names of methods are written as Class.name and their types. */
    static final class Method {
        final String name;
        final List<String> calls = new ArrayList<>();
        final List<String> makes = new ArrayList<>();
        boolean isThrowing;
        boolean isCatching;
        boolean isOdd;

        Method(String name) {
            this.name = name;
        }

        boolean isConstructor() {
            return name.contains(".<init>");
        }
    }

    private static final int UTF8 = 1;
    private static final int LONG = 5;
    private static final int DOUBLE = 6;
    private static final int TABLESWITCH = 0xaa;
    private static final int LOOKUPSWITCH = 0xab;
    private static final int INVOKEDYNAMIC = 0xba;
    private static final int WIDE = 0xc4;
    /** The bytes behind each instruction, as letters from '0' on; the switches and WIDE are counted apart. */
    private static final String OPERANDS = "0".repeat(0x10) + "12122" + "11111" + "0".repeat(28) + "11111"
            + "0".repeat(73) + "2" + "0".repeat(20) + "2".repeat(16) + "1" + "0".repeat(8) + "2222222" + "44" + "212"
            + "00" + "22" + "00" + "33" + "22" + "44";

    final String name;
    final List<Method> methods = new ArrayList<>();
    private final Object[] pool;

    ClassFile(Class<?> type) throws IOException {
        name = type.getName();
        try (InputStream bytes = type.getResourceAsStream("/" + name + ".class");
                DataInputStream in = new DataInputStream(bytes)) {
            in.skipBytes(8);
            pool = readPool(in);
            in.skipBytes(6);
            in.skipBytes(2 * in.readUnsignedShort());
            readMembers(in, false);
            readMembers(in, true);
        }
    }

    private static Object[] readPool(DataInputStream in) throws IOException {
        Object[] pool = new Object[in.readUnsignedShort()];
        for (int k = 1; k < pool.length; k++) {
            int tag = in.readUnsignedByte();
            switch (tag) {
                case UTF8 -> pool[k] = in.readUTF();
                case 7, 8, 16, 19, 20 -> pool[k] = new int[] {in.readUnsignedShort()};
                case 9, 10, 11, 12, 17, 18 -> pool[k] = new int[] {in.readUnsignedShort(), in.readUnsignedShort()};
                case 15 -> in.skipBytes(3);
                default -> in.skipBytes(tag == LONG || tag == DOUBLE ? 8 : 4);
            }
            if (tag == LONG || tag == DOUBLE) {
                k++;
            }
        }
        return pool;
    }

    private String text(int place) {
        return (String) pool[place];
    }

    private String className(int place) {
        return text(((int[]) pool[place])[0]);
    }

    private String member(int place) {
        int[] of = (int[]) pool[place];
        int[] nameAndType = (int[]) pool[of[1]];
        return className(of[0]) + "." + text(nameAndType[0]) + text(nameAndType[1]);
    }

    private void readMembers(DataInputStream in, boolean areMethods) throws IOException {
        int members = in.readUnsignedShort();
        for (int k = 0; k < members; k++) {
            in.skipBytes(2);
            String member = text(in.readUnsignedShort()) + text(in.readUnsignedShort());
            Method method = new Method(name + "." + member);
            int attributes = in.readUnsignedShort();
            for (int a = 0; a < attributes; a++) {
                String attribute = text(in.readUnsignedShort());
                byte[] bytes = in.readNBytes(in.readInt());
                if (attribute.equals("Code")) {
                    readCode(bytes, method);
                }
            }
            if (areMethods) {
                methods.add(method);
            }
        }
    }

    private static int number(byte[] bytes, int place, int length) {
        int number = 0;
        for (int k = 0; k < length; k++) {
            number = number << 8 | bytes[place + k] & 0xff;
        }
        return number;
    }

    private void readCode(byte[] bytes, Method method) {
        int start = 8;
        int length = number(bytes, 4, 4);
        method.isCatching = number(bytes, start + length, 2) > 0;
        int at = 0;
        while (at < length) {
            int place = start + at;
            int instruction = bytes[place] & 0xff;
            note(instruction, bytes, place, method);
            at += 1 + operands(instruction, bytes, at, start);
        }
        method.isOdd |= at != length;
    }

    private static int operands(int instruction, byte[] bytes, int at, int start) {
        int padded = (at + 4) / 4 * 4;
        switch (instruction) {
            case TABLESWITCH:
                int low = number(bytes, start + padded + 4, 4);
                int high = number(bytes, start + padded + 8, 4);
                return padded + 12 + 4 * (high - low + 1) - at - 1;
            case LOOKUPSWITCH:
                return padded + 8 + 8 * number(bytes, start + padded + 4, 4) - at - 1;
            case WIDE:
                return (bytes[start + at + 1] & 0xff) == 0x84 ? 5 : 3;
            default:
                return OPERANDS.charAt(instruction) - '0';
        }
    }

    private void note(int instruction, byte[] bytes, int place, Method method) {
        switch (instruction) {
            case 0xb6, 0xb7, 0xb8, 0xb9 -> method.calls.add(member(number(bytes, place + 1, 2)));
            case 0xbb, 0xbd, 0xc5 -> method.makes.add(className(number(bytes, place + 1, 2)));
            case 0xbc -> method.makes.add("numbers");
            case 0xbf -> method.isThrowing = true;
            case INVOKEDYNAMIC, 0xc2, 0xc3 -> method.isOdd = true;
            default -> {
            }
        }
    }
}
