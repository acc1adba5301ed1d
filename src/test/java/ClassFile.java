import java.io.ByteArrayInputStream;
import java.io.DataInputStream;
import java.io.IOException;
import java.io.InputStream;
import java.util.ArrayList;
import java.util.List;
import java.util.TreeMap;

/** The methods of a compiled class: what they call, and which instructions of some kinds they hold. */
final class ClassFile {
    /** A method: what it calls, as "java/lang/Math.abs", and how many catches it has. */
    static final class Body {
        final String name;
        final List<String> calls = new ArrayList<>();
        final TreeMap<Integer, Integer> instructions = new TreeMap<>();
        int divisionsByNoConstant;
        int catches;

        Body(String name) {
            this.name = name;
        }

        /** How many instructions there are whose numbers lie between two. */
        int count(int least, int most) {
            return instructions.subMap(least, true, most, true).values().stream().mapToInt(Integer::intValue).sum();
        }
    }

    private static final int TABLE_SWITCH = 170, LOOKUP_SWITCH = 171, WIDE = 196, IINC = 132;
    // Of the instructions from 0 on, as pairs: how many of them, and how many bytes each has.
    private static final int[] LENGTHS = {16, 1, 1, 2, 1, 3, 1, 2, 2, 3, 5, 2, 28, 1, 5, 2, 73, 1, 1, 3, 20, 1, 16, 3, 1, 2,
        2, 0, 6, 1, 7, 3, 2, 5, 1, 3, 1, 2, 1, 3, 2, 1, 2, 3, 2, 1, 1, 0, 1, 4, 2, 3, 2, 5};

    final String name;
    final List<Body> bodies = new ArrayList<>();
    final List<String> classes = new ArrayList<>();
    boolean hasDynamicCalls;

    private final String[] texts;
    private final int[] firsts;
    private final int[] seconds;

    ClassFile(Class<?> of) throws IOException {
        name = of.getName();
        try (InputStream bytes = of.getResourceAsStream("/" + name + ".class");
                DataInputStream in = new DataInputStream(bytes)) {
            in.skipBytes(8);
            int count = in.readUnsignedShort();
            texts = new String[count];
            firsts = new int[count];
            seconds = new int[count];
            readConstants(in, count);
            in.skipBytes(6);
            in.skipBytes(2 * in.readUnsignedShort());
            readMembers(in, false);
            readMembers(in, true);
        }
    }

    private void readConstants(DataInputStream in, int count) throws IOException {
        List<Integer> classIndexes = new ArrayList<>();
        for (int i = 1; i < count; i++) {
            int kind = in.readUnsignedByte();
            switch (kind) {
                case 1: texts[i] = in.readUTF(); break;
                case 3: case 4: in.readInt(); break;
                case 5: case 6: in.readLong(); i++; break;
                case 7: firsts[i] = in.readUnsignedShort(); classIndexes.add(firsts[i]); break;
                case 8: case 16: case 19: case 20: firsts[i] = in.readUnsignedShort(); break;
                case 15: in.readUnsignedByte(); in.readUnsignedShort(); break;
                default:
                    firsts[i] = in.readUnsignedShort();
                    seconds[i] = in.readUnsignedShort();
                    hasDynamicCalls |= kind == 17 || kind == 18;
            }
        }
        classIndexes.forEach(index -> classes.add(texts[index]));
    }

    private void readMembers(DataInputStream in, boolean areMethods) throws IOException {
        int count = in.readUnsignedShort();
        for (int i = 0; i < count; i++) {
            in.readUnsignedShort();
            Body body = new Body(name + "." + texts[in.readUnsignedShort()]);
            in.readUnsignedShort();
            int attributes = in.readUnsignedShort();
            for (int a = 0; a < attributes; a++) {
                String attribute = texts[in.readUnsignedShort()];
                byte[] content = in.readNBytes(in.readInt());
                if (attribute.equals("Code")) {
                    readCode(body, content);
                }
            }
            if (areMethods) {
                bodies.add(body);
            }
        }
    }

    private void readCode(Body body, byte[] content) throws IOException {
        DataInputStream in = new DataInputStream(new ByteArrayInputStream(content));
        in.skipBytes(4);
        byte[] code = in.readNBytes(in.readInt());
        body.catches = in.readUnsignedShort();
        int before = 0;
        for (int at = 0; at < code.length;) {
            int instruction = code[at] & 255;
            body.instructions.merge(instruction, 1, Integer::sum);
            if (instruction >= 182 && instruction <= 185) {
                body.calls.add(called(number(code, at + 1, 2)));
            }
            boolean divides = instruction >= 108 && instruction <= 109 || instruction >= 112 && instruction <= 113;
            if (divides && !(before >= 2 && before <= 10 || before >= 16 && before <= 20)) {
                body.divisionsByNoConstant++;
            }
            before = instruction;
            at += length(code, at);
        }
    }

    private String called(int method) {
        return texts[firsts[firsts[method]]] + "." + texts[firsts[seconds[method]]];
    }

    private static int length(byte[] code, int at) {
        int instruction = code[at] & 255;
        int operands = (at / 4 + 1) * 4;
        switch (instruction) {
            case TABLE_SWITCH:
                return operands + 12 + 4 * (number(code, operands + 8, 4) - number(code, operands + 4, 4) + 1) - at;
            case LOOKUP_SWITCH:
                return operands + 8 + 8 * number(code, operands + 4, 4) - at;
            case WIDE:
                return (code[at + 1] & 255) == IINC ? 6 : 4;
            default:
                int first = 0;
                for (int i = 0; i < LENGTHS.length; i += 2) {
                    first += LENGTHS[i];
                    if (instruction < first) {
                        return LENGTHS[i + 1];
                    }
                }
                throw new IllegalArgumentException("there is no instruction " + instruction);
        }
    }

    private static int number(byte[] code, int at, int bytes) {
        int number = 0;
        for (int i = 0; i < bytes; i++) {
            number = number << 8 | code[at + i] & 255;
        }
        return number;
    }
}
