import java.io.ByteArrayInputStream;
import java.io.DataInputStream;
import java.io.IOException;
import java.io.InputStream;
import java.util.ArrayList;
import java.util.List;

/** What stands in a compiled class: its fields, its methods with all their instructions, and its texts. */
final class ClassFile {
    static final int STATIC = 0x8, FINAL = 0x10;

    /** The owner is the class that a call, a field or a new object names, or nothing. */
    record Instruction(int opcode, String owner, String name, String type) {
        boolean isCall() {
            return opcode >= 0xb6 && opcode <= 0xba;
        }
    }

    record Member(int access, String name, String type, List<Instruction> code, List<String> caught) {
        boolean is(int flag) {
            return (access & flag) != 0;
        }

        boolean holds(int opcode) {
            return code.stream().anyMatch(instruction -> instruction.opcode == opcode);
        }
    }

    private static final int UTF8 = 1, INTEGER = 3, FLOAT = 4, LONG = 5, DOUBLE = 6, CLASS = 7, TEXT = 8, NAME_AND_TYPE = 12,
            METHOD_HANDLE = 15, METHOD_TYPE = 16, MODULE = 19, PACKAGE = 20;
    private static final int TABLE_SWITCH = 0xaa, LOOKUP_SWITCH = 0xab, WIDE = 0xc4, IINC = 0x84;

    final String name;
    final List<Member> fields;
    final List<Member> methods;
    final List<String> texts = new ArrayList<>();

    private final DataInputStream in;
    private int[] tags;
    private int[][] parts;
    private String[] words;

    private ClassFile(InputStream stream) throws IOException {
        in = new DataInputStream(stream);
        in.readInt();
        in.readInt();
        readConstants();
        in.readUnsignedShort();
        name = nameOf(in.readUnsignedShort());
        in.readUnsignedShort();
        in.skipBytes(2 * in.readUnsignedShort());
        fields = readMembers();
        methods = readMembers();
    }

    static ClassFile of(String name) throws IOException {
        try (InputStream stream = ClassFile.class.getResourceAsStream("/" + name + ".class")) {
            return new ClassFile(stream);
        }
    }

    private void readConstants() throws IOException {
        int count = in.readUnsignedShort();
        tags = new int[count];
        parts = new int[count][2];
        words = new String[count];
        for (int i = 1; i < count; i++) {
            tags[i] = in.readUnsignedByte();
            readConstant(i);
            // A long and a double count as two.
            i += tags[i] == LONG || tags[i] == DOUBLE ? 1 : 0;
        }
        for (int i = 1; i < count; i++) {
            if (tags[i] == TEXT) {
                texts.add(words[parts[i][0]]);
            }
        }
    }

    private void readConstant(int i) throws IOException {
        switch (tags[i]) {
            case UTF8:
                words[i] = in.readUTF();
                break;
            case INTEGER:
            case FLOAT:
                in.readInt();
                break;
            case LONG:
            case DOUBLE:
                in.readLong();
                break;
            case CLASS:
            case TEXT:
            case METHOD_TYPE:
            case MODULE:
            case PACKAGE:
                parts[i][0] = in.readUnsignedShort();
                break;
            case METHOD_HANDLE:
                parts[i][0] = in.readUnsignedByte();
                parts[i][1] = in.readUnsignedShort();
                break;
            default:
                parts[i][0] = in.readUnsignedShort();
                parts[i][1] = in.readUnsignedShort();
                break;
        }
    }

    private String nameOf(int classAt) {
        return tags[classAt] == CLASS ? words[parts[classAt][0]] : "";
    }

    private List<Member> readMembers() throws IOException {
        List<Member> members = new ArrayList<>();
        int count = in.readUnsignedShort();
        for (int i = 0; i < count; i++) {
            Member member = new Member(in.readUnsignedShort(), words[in.readUnsignedShort()], words[in.readUnsignedShort()],
                    new ArrayList<>(), new ArrayList<>());
            int attributes = in.readUnsignedShort();
            for (int j = 0; j < attributes; j++) {
                String attribute = words[in.readUnsignedShort()];
                byte[] bytes = new byte[in.readInt()];
                in.readFully(bytes);
                if (attribute.equals("Code")) {
                    readCode(bytes, member);
                }
            }
            members.add(member);
        }
        return members;
    }

    private void readCode(byte[] bytes, Member member) throws IOException {
        DataInputStream code = new DataInputStream(new ByteArrayInputStream(bytes));
        code.readInt();
        byte[] instructions = new byte[code.readInt()];
        code.readFully(instructions);
        for (int at = 0; at < instructions.length; at += lengthAt(instructions, at)) {
            member.code.add(instructionAt(instructions, at));
        }
        int caught = code.readUnsignedShort();
        for (int i = 0; i < caught; i++) {
            code.readInt();
            code.readUnsignedShort();
            int kind = code.readUnsignedShort();
            member.caught.add(kind == 0 ? "anything" : nameOf(kind));
        }
    }

    private Instruction instructionAt(byte[] code, int at) {
        int opcode = code[at] & 0xff;
        boolean isOfMember = opcode >= 0xb2 && opcode <= 0xba;
        boolean isOfClass = opcode == 0xbb || opcode == 0xbd || opcode == 0xc0 || opcode == 0xc1 || opcode == 0xc5;
        if (!isOfMember && !isOfClass) {
            return new Instruction(opcode, "", "", "");
        }
        int named = (code[at + 1] & 0xff) << 8 | code[at + 2] & 0xff;
        if (isOfClass) {
            return new Instruction(opcode, nameOf(named), "", "");
        }
        int[] nameAndType = parts[parts[named][1]];
        return new Instruction(opcode, nameOf(parts[named][0]), words[nameAndType[0]], words[nameAndType[1]]);
    }

    private static int lengthAt(byte[] code, int at) {
        int opcode = code[at] & 0xff;
        if (opcode == TABLE_SWITCH) {
            int told = at + 4 - at % 4;
            return told - at + 12 + 4 * (intAt(code, told + 8) - intAt(code, told + 4) + 1);
        }
        if (opcode == LOOKUP_SWITCH) {
            int told = at + 4 - at % 4;
            return told - at + 8 + 8 * intAt(code, told + 4);
        }
        if (opcode == WIDE) {
            return (code[at + 1] & 0xff) == IINC ? 6 : 4;
        }
        return plainLength(opcode);
    }

    private static int plainLength(int opcode) {
        if (opcode == 0xb9 || opcode == 0xba || opcode == 0xc8 || opcode == 0xc9) {
            return 5;
        }
        if (opcode == 0xc5) {
            return 4;
        }
        boolean isTwo = opcode == 0x10 || opcode == 0x12 || opcode >= 0x15 && opcode <= 0x19 || opcode >= 0x36 && opcode <= 0x3a
                || opcode == 0xa9 || opcode == 0xbc;
        boolean isThree = opcode == 0x11 || opcode == 0x13 || opcode == 0x14 || opcode == IINC || opcode >= 0x99 && opcode <= 0xa8
                || opcode >= 0xb2 && opcode <= 0xb8 || opcode == 0xbb || opcode == 0xbd || opcode == 0xc0 || opcode == 0xc1
                || opcode == 0xc6 || opcode == 0xc7;
        return isTwo ? 2 : isThree ? 3 : 1;
    }

    private static int intAt(byte[] code, int at) {
        return (code[at] & 0xff) << 24 | (code[at + 1] & 0xff) << 16 | (code[at + 2] & 0xff) << 8 | code[at + 3] & 0xff;
    }
}
